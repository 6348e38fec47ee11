theorem dX11_letter_20 : decode cX11_letter 20 = .ok (.invokevirtual 157, 3) := by decide +kernel
theorem dX11_letter_23 : decode cX11_letter 23 = .ok (.istore 4, 2) := by decide +kernel
theorem dX11_letter_25 : decode cX11_letter 25 = .ok (.iload 4, 2) := by decide +kernel
theorem dX11_letter_27 : decode cX11_letter 27 = .ok (.ifCond .eq 13, 3) := by decide +kernel
theorem dX11_letter_40 : decode cX11_letter 40 = .ok (.iconst (-1), 1) := by decide +kernel
theorem dX11_letter_41 : decode cX11_letter 41 = .ok (.ireturn, 1) := by decide +kernel
theorem dX11_format_0 : decode cX11_format 0 = .ok (.aload_n 0, 1) := by decide +kernel
theorem dX11_format_1 : decode cX11_format 1 = .ok (.getfield 27, 3) := by decide +kernel
theorem dX11_format_4 : decode cX11_format 4 = .ok (.iload_n 1, 1) := by decide +kernel
theorem dX11_format_5 : decode cX11_format 5 = .ok (.invokevirtual 153, 3) := by decide +kernel
theorem dX11_format_8 : decode cX11_format 8 = .ok (.ifCond .ne 5, 3) := by decide +kernel
theorem dX11_format_11 : decode cX11_format 11 = .ok (.iconst (-1), 1) := by decide +kernel
theorem dX11_format_12 : decode cX11_format 12 = .ok (.ireturn, 1) := by decide +kernel
theorem dX11_number_0 : decode cX11_number 0 = .ok (.aload_n 0, 1) := by decide +kernel
theorem dX11_number_1 : decode cX11_number 1 = .ok (.getfield 27, 3) := by decide +kernel
theorem dX11_number_4 : decode cX11_number 4 = .ok (.iload_n 1, 1) := by decide +kernel
theorem dX11_number_5 : decode cX11_number 5 = .ok (.invokevirtual 157, 3) := by decide +kernel
theorem dX11_number_8 : decode cX11_number 8 = .ok (.ifCond .ne 6, 3) := by decide +kernel
theorem dX11_number_11 : decode cX11_number 11 = .ok (.bipush (-2), 2) := by decide +kernel
theorem dX11_number_13 : decode cX11_number 13 = .ok (.ireturn, 1) := by decide +kernel
theorem dX11_told_0 : decode cX11_told 0 = .ok (.aload_n 0, 1) := by decide +kernel
theorem dX11_told_1 : decode cX11_told 1 = .ok (.getfield 27, 3) := by decide +kernel
theorem dX11_told_4 : decode cX11_told 4 = .ok (.iload_n 1, 1) := by decide +kernel
theorem dX11_told_5 : decode cX11_told 5 = .ok (.invokevirtual 157, 3) := by decide +kernel
theorem dX11_told_8 : decode cX11_told 8 = .ok (.ifCond .eq 12, 3) := by decide +kernel
theorem dX11_told_20 : decode cX11_told 20 = .ok (.ldc2_w 194, 3) := by decide +kernel
theorem dX11_told_23 : decode cX11_told 23 = .ok (.lreturn, 1) := by decide +kernel
theorem dX11_range_0 : decode cX11_range 0 = .ok (.aload_n 0, 1) := by decide +kernel
theorem dX11_range_1 : decode cX11_range 1 = .ok (.getfield 27, 3) := by decide +kernel
theorem dX11_range_4 : decode cX11_range 4 = .ok (.iload_n 1, 1) := by decide +kernel
theorem dX11_range_5 : decode cX11_range 5 = .ok (.invokevirtual 157, 3) := by decide +kernel
theorem dX11_range_8 : decode cX11_range 8 = .ok (.ifCond .eq 18, 3) := by decide +kernel
theorem dX11_range_26 : decode cX11_range 26 = .ok (.ldc2_w 194, 3) := by decide +kernel
theorem dX11_range_29 : decode cX11_range 29 = .ok (.lreturn, 1) := by decide +kernel
theorem dX11_uses_0 : decode cX11_uses 0 = .ok (.aload_n 0, 1) := by decide +kernel
theorem dX11_uses_1 : decode cX11_uses 1 = .ok (.getfield 27, 3) := by decide +kernel
theorem dX11_uses_4 : decode cX11_uses 4 = .ok (.iload_n 1, 1) := by decide +kernel
theorem dX11_uses_5 : decode cX11_uses 5 = .ok (.invokevirtual 157, 3) := by decide +kernel
theorem dX11_uses_8 : decode cX11_uses 8 = .ok (.ifCond .eq 17, 3) := by decide +kernel
theorem dX11_uses_25 : decode cX11_uses 25 = .ok (.iconst (-1), 1) := by decide +kernel
theorem dX11_uses_26 : decode cX11_uses 26 = .ok (.ireturn, 1) := by decide +kernel
theorem dX11_depth_0 : decode cX11_depth 0 = .ok (.aload_n 0, 1) := by decide +kernel
theorem dX11_depth_1 : decode cX11_depth 1 = .ok (.getfield 27, 3) := by decide +kernel
theorem dX11_depth_4 : decode cX11_depth 4 = .ok (.iload_n 1, 1) := by decide +kernel
theorem dX11_depth_5 : decode cX11_depth 5 = .ok (.invokevirtual 157, 3) := by decide +kernel
theorem dX11_depth_8 : decode cX11_depth 8 = .ok (.ifCond .eq 18, 3) := by decide +kernel
theorem dX11_depth_26 : decode cX11_depth 26 = .ok (.iconst (-1), 1) := by decide +kernel
theorem dX11_depth_27 : decode cX11_depth 27 = .ok (.ireturn, 1) := by decide +kernel
theorem dX11_chosen_0 : decode cX11_chosen 0 = .ok (.aload_n 0, 1) := by decide +kernel
theorem dX11_chosen_1 : decode cX11_chosen 1 = .ok (.getfield 27, 3) := by decide +kernel
theorem dX11_chosen_4 : decode cX11_chosen 4 = .ok (.invokevirtual 220, 3) := by decide +kernel
theorem dX11_chosen_7 : decode cX11_chosen 7 = .ok (.ifCond .eq 29, 3) := by decide +kernel
theorem dX11_chosen_36 : decode cX11_chosen 36 = .ok (.iconst (-1), 1) := by decide +kernel
theorem dX11_chosen_37 : decode cX11_chosen 37 = .ok (.ireturn, 1) := by decide +kernel
theorem dX11_choose_0 : decode cX11_choose 0 = .ok (.aload_n 0, 1) := by decide +kernel
theorem dX11_choose_1 : decode cX11_choose 1 = .ok (.getfield 27, 3) := by decide +kernel
theorem dX11_choose_4 : decode cX11_choose 4 = .ok (.invokevirtual 220, 3) := by decide +kernel
theorem dX11_choose_7 : decode cX11_choose 7 = .ok (.ifCond .eq 25, 3) := by decide +kernel
theorem dX11_choose_32 : decode cX11_choose 32 = .ok (.aload_n 0, 1) := by decide +kernel
theorem dX11_choose_33 : decode cX11_choose 33 = .ok (.iconst 2, 1) := by decide +kernel
theorem dX11_choose_34 : decode cX11_choose 34 = .ok (.invokevirtual 92, 3) := by decide +kernel
theorem dX11_choose_37 : decode cX11_choose 37 = .ok (.ireturn, 1) := by decide +kernel
theorem dX11_cost_0 : decode cX11_cost 0 = .ok (.aload_n 0, 1) := by decide +kernel
theorem dX11_cost_1 : decode cX11_cost 1 = .ok (.getfield 27, 3) := by decide +kernel
theorem dX11_cost_4 : decode cX11_cost 4 = .ok (.invokevirtual 220, 3) := by decide +kernel
theorem dX11_cost_7 : decode cX11_cost 7 = .ok (.ifCond .eq 17, 3) := by decide +kernel
theorem dX11_cost_24 : decode cX11_cost 24 = .ok (.iconst (-1), 1) := by decide +kernel
theorem dX11_cost_25 : decode cX11_cost 25 = .ok (.ireturn, 1) := by decide +kernel
theorem dX11_casts_0 : decode cX11_casts 0 = .ok (.aload_n 0, 1) := by decide +kernel
theorem dX11_casts_1 : decode cX11_casts 1 = .ok (.getfield 27, 3) := by decide +kernel
theorem dX11_casts_4 : decode cX11_casts 4 = .ok (.invokevirtual 220, 3) := by decide +kernel
theorem dX11_casts_7 : decode cX11_casts 7 = .ok (.ifCond .eq 17, 3) := by decide +kernel
theorem dX11_casts_24 : decode cX11_casts 24 = .ok (.iconst (-1), 1) := by decide +kernel
theorem dX11_casts_25 : decode cX11_casts 25 = .ok (.ireturn, 1) := by decide +kernel
theorem dX11_fails_0 : decode cX11_fails 0 = .ok (.aload_n 0, 1) := by decide +kernel
theorem dX11_fails_1 : decode cX11_fails 1 = .ok (.getfield 27, 3) := by decide +kernel
theorem dX11_fails_4 : decode cX11_fails 4 = .ok (.invokevirtual 220, 3) := by decide +kernel
theorem dX11_fails_7 : decode cX11_fails 7 = .ok (.ifCond .ne 5, 3) := by decide +kernel
theorem dX11_fails_10 : decode cX11_fails 10 = .ok (.iconst (-1), 1) := by decide +kernel
theorem dX11_fails_11 : decode cX11_fails 11 = .ok (.ireturn, 1) := by decide +kernel
theorem dX11_why_0 : decode cX11_why 0 = .ok (.aload_n 0, 1) := by decide +kernel
theorem dX11_why_1 : decode cX11_why 1 = .ok (.getfield 27, 3) := by decide +kernel
theorem dX11_why_4 : decode cX11_why 4 = .ok (.invokevirtual 220, 3) := by decide +kernel
theorem dX11_why_7 : decode cX11_why 7 = .ok (.ifCond .ne 5, 3) := by decide +kernel
theorem dX11_why_10 : decode cX11_why 10 = .ok (.iconst (-1), 1) := by decide +kernel
theorem dX11_why_11 : decode cX11_why 11 = .ok (.ireturn, 1) := by decide +kernel
theorem dX11_error_0 : decode cX11_error 0 = .ok (.aload_n 0, 1) := by decide +kernel
theorem dX11_error_1 : decode cX11_error 1 = .ok (.getfield 27, 3) := by decide +kernel
theorem dX11_error_4 : decode cX11_error 4 = .ok (.invokevirtual 220, 3) := by decide +kernel
theorem dX11_error_7 : decode cX11_error 7 = .ok (.ifCond .eq 14, 3) := by decide +kernel
theorem dX11_error_21 : decode cX11_error 21 = .ok (.ldc2_w 194, 3) := by decide +kernel
theorem dX11_error_24 : decode cX11_error 24 = .ok (.lreturn, 1) := by decide +kernel
theorem dX11_slack_0 : decode cX11_slack 0 = .ok (.aload_n 0, 1) := by decide +kernel
theorem dX11_slack_1 : decode cX11_slack 1 = .ok (.getfield 27, 3) := by decide +kernel
theorem dX11_slack_4 : decode cX11_slack 4 = .ok (.iload_n 1, 1) := by decide +kernel
theorem dX11_slack_5 : decode cX11_slack 5 = .ok (.invokevirtual 251, 3) := by decide +kernel
theorem dX11_slack_8 : decode cX11_slack 8 = .ok (.ifCond .eq 10, 3) := by decide +kernel
theorem dX11_slack_18 : decode cX11_slack 18 = .ok (.ldc2_w 194, 3) := by decide +kernel
theorem dX11_slack_21 : decode cX11_slack 21 = .ok (.lreturn, 1) := by decide +kernel
theorem dX11_widest_0 : decode cX11_widest 0 = .ok (.aload_n 0, 1) := by decide +kernel
theorem dX11_widest_1 : decode cX11_widest 1 = .ok (.getfield 27, 3) := by decide +kernel
theorem dX11_widest_4 : decode cX11_widest 4 = .ok (.iload_n 1, 1) := by decide +kernel
theorem dX11_widest_5 : decode cX11_widest 5 = .ok (.invokevirtual 257, 3) := by decide +kernel
theorem dX11_widest_8 : decode cX11_widest 8 = .ok (.ifCond .eq 10, 3) := by decide +kernel
theorem dX11_widest_18 : decode cX11_widest 18 = .ok (.iconst (-1), 1) := by decide +kernel
theorem dX11_widest_19 : decode cX11_widest 19 = .ok (.ireturn, 1) := by decide +kernel
theorem dX11_blame_0 : decode cX11_blame 0 = .ok (.aload_n 0, 1) := by decide +kernel
theorem dX11_blame_1 : decode cX11_blame 1 = .ok (.getfield 27, 3) := by decide +kernel
theorem dX11_blame_4 : decode cX11_blame 4 = .ok (.iload_n 1, 1) := by decide +kernel
theorem dX11_blame_5 : decode cX11_blame 5 = .ok (.invokevirtual 251, 3) := by decide +kernel
theorem dX11_blame_8 : decode cX11_blame 8 = .ok (.ifCond .eq 21, 3) := by decide +kernel
theorem dX11_blame_29 : decode cX11_blame 29 = .ok (.ldc2_w 194, 3) := by decide +kernel
theorem dX11_blame_32 : decode cX11_blame 32 = .ok (.lreturn, 1) := by decide +kernel
theorem dX11_cheapest_0 : decode cX11_cheapest 0 = .ok (.aload_n 0, 1) := by decide +kernel
theorem dX11_cheapest_1 : decode cX11_cheapest 1 = .ok (.getfield 60, 3) := by decide +kernel
theorem dX11_cheapest_4 : decode cX11_cheapest 4 = .ok (.aload_n 0, 1) := by decide +kernel
theorem dX11_cheapest_5 : decode cX11_cheapest 5 = .ok (.getfield 27, 3) := by decide +kernel
theorem dX11_cheapest_8 : decode cX11_cheapest 8 = .ok (.invokevirtual 273, 3) := by decide +kernel
theorem dX11_cheapest_11 : decode cX11_cheapest 11 = .ok (.ifCond .eq 14, 3) := by decide +kernel
theorem dX11_cheapest_25 : decode cX11_cheapest 25 = .ok (.iconst (-1), 1) := by decide +kernel
theorem dX11_cheapest_26 : decode cX11_cheapest 26 = .ok (.ireturn, 1) := by decide +kernel
theorem dX11_passing_0 : decode cX11_passing 0 = .ok (.aload_n 0, 1) := by decide +kernel
theorem dX11_passing_1 : decode cX11_passing 1 = .ok (.getfield 60, 3) := by decide +kernel
theorem dX11_passing_4 : decode cX11_passing 4 = .ok (.aload_n 0, 1) := by decide +kernel
theorem dX11_passing_5 : decode cX11_passing 5 = .ok (.getfield 27, 3) := by decide +kernel
theorem dX11_passing_8 : decode cX11_passing 8 = .ok (.invokevirtual 273, 3) := by decide +kernel
theorem dX11_passing_11 : decode cX11_passing 11 = .ok (.ifCond .eq 13, 3) := by decide +kernel
theorem dX11_passing_24 : decode cX11_passing 24 = .ok (.iconst (-1), 1) := by decide +kernel
theorem dX11_passing_25 : decode cX11_passing 25 = .ok (.ireturn, 1) := by decide +kernel
theorem dX11_halves_0 : decode cX11_halves 0 = .ok (.aload_n 0, 1) := by decide +kernel
theorem dX11_halves_1 : decode cX11_halves 1 = .ok (.getfield 67, 3) := by decide +kernel
theorem dX11_halves_4 : decode cX11_halves 4 = .ok (.aload_n 0, 1) := by decide +kernel
theorem dX11_halves_5 : decode cX11_halves 5 = .ok (.getfield 27, 3) := by decide +kernel
theorem dX11_halves_8 : decode cX11_halves 8 = .ok (.invokevirtual 290, 3) := by decide +kernel
theorem dX11_halves_11 : decode cX11_halves 11 = .ok (.ifCond .ne 5, 3) := by decide +kernel
theorem dX11_halves_14 : decode cX11_halves 14 = .ok (.iconst (-1), 1) := by decide +kernel
theorem dX11_halves_15 : decode cX11_halves 15 = .ok (.ireturn, 1) := by decide +kernel
theorem dX11_single_0 : decode cX11_single 0 = .ok (.aload_n 0, 1) := by decide +kernel
theorem dX11_single_1 : decode cX11_single 1 = .ok (.getfield 27, 3) := by decide +kernel
theorem dX11_single_4 : decode cX11_single 4 = .ok (.invokevirtual 220, 3) := by decide +kernel
theorem dX11_single_7 : decode cX11_single 7 = .ok (.ifCond .ne 5, 3) := by decide +kernel
theorem dX11_single_10 : decode cX11_single 10 = .ok (.iconst (-1), 1) := by decide +kernel
theorem dX11_single_11 : decode cX11_single 11 = .ok (.ireturn, 1) := by decide +kernel
theorem dX11_take_0 : decode cX11_take 0 = .ok (.iconst 0, 1) := by decide +kernel
theorem dX11_take_1 : decode cX11_take 1 = .ok (.istore_n 2, 1) := by decide +kernel
theorem dX11_take_2 : decode cX11_take 2 = .ok (.iload_n 1, 1) := by decide +kernel
theorem dX11_take_3 : decode cX11_take 3 = .ok (.ifCond .ne 11, 3) := by decide +kernel
theorem dX11_take_6 : decode cX11_take 6 = .ok (.aload_n 0, 1) := by decide +kernel
theorem dX11_take_7 : decode cX11_take 7 = .ok (.invokevirtual 320, 3) := by decide +kernel
theorem dX11_take_10 : decode cX11_take 10 = .ok (.istore_n 2, 1) := by decide +kernel
theorem dX11_take_11 : decode cX11_take 11 = .ok (.goto 51, 3) := by decide +kernel
theorem dX11_take_14 : decode cX11_take 14 = .ok (.iload_n 1, 1) := by decide +kernel
theorem dX11_take_15 : decode cX11_take 15 = .ok (.iconst 1, 1) := by decide +kernel
theorem dX11_take_16 : decode cX11_take 16 = .ok (.if_icmp .ne 36, 3) := by decide +kernel
theorem dX11_take_19 : decode cX11_take 19 = .ok (.aload_n 0, 1) := by decide +kernel
theorem dX11_take_20 : decode cX11_take 20 = .ok (.getfield 67, 3) := by decide +kernel
theorem dX11_take_23 : decode cX11_take 23 = .ok (.aload_n 0, 1) := by decide +kernel
theorem dX11_take_24 : decode cX11_take 24 = .ok (.getfield 27, 3) := by decide +kernel
theorem dX11_take_27 : decode cX11_take 27 = .ok (.invokevirtual 290, 3) := by decide +kernel
theorem dX11_take_30 : decode cX11_take 30 = .ok (.ifCond .eq 22, 3) := by decide +kernel
theorem dX11_take_52 : decode cX11_take 52 = .ok (.iload_n 1, 1) := by decide +kernel
theorem dX11_take_53 : decode cX11_take 53 = .ok (.iconst 2, 1) := by decide +kernel
theorem dX11_take_54 : decode cX11_take 54 = .ok (.if_icmp .ne 8, 3) := by decide +kernel
theorem dX11_take_57 : decode cX11_take 57 = .ok (.aload_n 0, 1) := by decide +kernel
theorem dX11_take_58 : decode cX11_take 58 = .ok (.invokevirtual 323, 3) := by decide +kernel
theorem dX11_take_61 : decode cX11_take 61 = .ok (.istore_n 2, 1) := by decide +kernel
theorem dX11_take_62 : decode cX11_take 62 = .ok (.iload_n 2, 1) := by decide +kernel
theorem dX11_take_63 : decode cX11_take 63 = .ok (.ifCond .eq 17, 3) := by decide +kernel
theorem dX11_take_80 : decode cX11_take 80 = .ok (.aload_n 0, 1) := by decide +kernel
theorem dX11_take_81 : decode cX11_take 81 = .ok (.iconst 2, 1) := by decide +kernel
theorem dX11_take_82 : decode cX11_take 82 = .ok (.invokevirtual 92, 3) := by decide +kernel
theorem dX11_take_85 : decode cX11_take 85 = .ok (.ireturn, 1) := by decide +kernel
theorem dX11_front_0 : decode cX11_front 0 = .ok (.aload_n 0, 1) := by decide +kernel
theorem dX11_front_1 : decode cX11_front 1 = .ok (.getfield 27, 3) := by decide +kernel
theorem dX11_front_4 : decode cX11_front 4 = .ok (.iload_n 1, 1) := by decide +kernel
theorem dX11_front_5 : decode cX11_front 5 = .ok (.invokevirtual 251, 3) := by decide +kernel
theorem dX11_front_8 : decode cX11_front 8 = .ok (.ifCond .eq 17, 3) := by decide +kernel
theorem dX11_front_25 : decode cX11_front 25 = .ok (.ldc2_w 194, 3) := by decide +kernel
theorem dX11_front_28 : decode cX11_front 28 = .ok (.lreturn, 1) := by decide +kernel
theorem dX11_least_0 : decode cX11_least 0 = .ok (.aload_n 0, 1) := by decide +kernel
theorem dX11_least_1 : decode cX11_least 1 = .ok (.getfield 27, 3) := by decide +kernel
theorem dX11_least_4 : decode cX11_least 4 = .ok (.iload_n 1, 1) := by decide +kernel
theorem dX11_least_5 : decode cX11_least 5 = .ok (.invokevirtual 251, 3) := by decide +kernel
theorem dX11_least_8 : decode cX11_least 8 = .ok (.ifCond .eq 17, 3) := by decide +kernel
theorem dX11_least_25 : decode cX11_least 25 = .ok (.ldc2_w 194, 3) := by decide +kernel
theorem dX11_least_28 : decode cX11_least 28 = .ok (.lreturn, 1) := by decide +kernel
theorem dX11_certificate_0 : decode cX11_certificate 0 = .ok (.iload_n 1, 1) := by decide +kernel
theorem dX11_certificate_1 : decode cX11_certificate 1 = .ok (.ifCond .lt 27, 3) := by decide +kernel
theorem dX11_certificate_4 : decode cX11_certificate 4 = .ok (.iload_n 1, 1) := by decide +kernel
theorem dX11_certificate_5 : decode cX11_certificate 5 = .ok (.bipush 25, 2) := by decide +kernel
theorem dX11_certificate_7 : decode cX11_certificate 7 = .ok (.aload_n 0, 1) := by decide +kernel
theorem dX11_certificate_8 : decode cX11_certificate 8 = .ok (.getfield 27, 3) := by decide +kernel
theorem dX11_certificate_11 : decode cX11_certificate 11 = .ok (.getfield 122, 3) := by decide +kernel
theorem dX11_certificate_14 : decode cX11_certificate 14 = .ok (.getfield 126, 3) := by decide +kernel
theorem dX11_certificate_17 : decode cX11_certificate 17 = .ok (.imul, 1) := by decide +kernel
theorem dX11_certificate_18 : decode cX11_certificate 18 = .ok (.if_icmp .ge 10, 3) := by decide +kernel
theorem dX11_certificate_28 : decode cX11_certificate 28 = .ok (.iconst (-1), 1) := by decide +kernel
theorem dX11_certificate_29 : decode cX11_certificate 29 = .ok (.ireturn, 1) := by decide +kernel
theorem dX11_check_0 : decode cX11_check 0 = .ok (.aload_n 0, 1) := by decide +kernel
theorem dX11_check_1 : decode cX11_check 1 = .ok (.getfield 89, 3) := by decide +kernel
theorem dX11_check_4 : decode cX11_check 4 = .ok (.istore_n 1, 1) := by decide +kernel
theorem dX11_check_5 : decode cX11_check 5 = .ok (.aload_n 0, 1) := by decide +kernel
theorem dX11_check_6 : decode cX11_check 6 = .ok (.iconst 0, 1) := by decide +kernel
theorem dX11_check_7 : decode cX11_check 7 = .ok (.putfield 89, 3) := by decide +kernel
theorem dX11_check_10 : decode cX11_check 10 = .ok (.aload_n 0, 1) := by decide +kernel
theorem dX11_check_11 : decode cX11_check 11 = .ok (.getfield 74, 3) := by decide +kernel
theorem dX11_check_14 : decode cX11_check 14 = .ok (.aload_n 0, 1) := by decide +kernel
theorem dX11_check_15 : decode cX11_check 15 = .ok (.getfield 9, 3) := by decide +kernel
theorem dX11_check_18 : decode cX11_check 18 = .ok (.iload_n 1, 1) := by decide +kernel
theorem dX11_check_19 : decode cX11_check 19 = .ok (.aload_n 0, 1) := by decide +kernel
theorem dX11_check_20 : decode cX11_check 20 = .ok (.getfield 27, 3) := by decide +kernel
theorem dX11_check_23 : decode cX11_check 23 = .ok (.invokevirtual 350, 3) := by decide +kernel
theorem dX11_check_26 : decode cX11_check 26 = .ok (.ifCond .ne 11, 3) := by decide +kernel
theorem dX11_check_29 : decode cX11_check 29 = .ok (.aload_n 0, 1) := by decide +kernel
theorem dX11_check_30 : decode cX11_check 30 = .ok (.iconst 3, 1) := by decide +kernel
theorem dX11_check_31 : decode cX11_check 31 = .ok (.invokevirtual 92, 3) := by decide +kernel
theorem dX11_check_34 : decode cX11_check 34 = .ok (.pop, 1) := by decide +kernel
theorem dX11_check_35 : decode cX11_check 35 = .ok (.iconst 0, 1) := by decide +kernel
theorem dX11_check_36 : decode cX11_check 36 = .ok (.ireturn, 1) := by decide +kernel
theorem dX11_broken_0 : decode cX11_broken 0 = .ok (.iload_n 1, 1) := by decide +kernel
theorem dX11_broken_1 : decode cX11_broken 1 = .ok (.ifCond .ne 11, 3) := by decide +kernel
theorem dX11_broken_4 : decode cX11_broken 4 = .ok (.aload_n 0, 1) := by decide +kernel
theorem dX11_broken_5 : decode cX11_broken 5 = .ok (.getfield 74, 3) := by decide +kernel
theorem dX11_broken_8 : decode cX11_broken 8 = .ok (.getfield 353, 3) := by decide +kernel
theorem dX11_broken_11 : decode cX11_broken 11 = .ok (.ireturn, 1) := by decide +kernel
theorem dX11_broken_12 : decode cX11_broken 12 = .ok (.iload_n 1, 1) := by decide +kernel
theorem dX11_broken_13 : decode cX11_broken 13 = .ok (.iconst 1, 1) := by decide +kernel
theorem dX11_broken_14 : decode cX11_broken 14 = .ok (.if_icmp .ne 13, 3) := by decide +kernel
theorem dX11_broken_17 : decode cX11_broken 17 = .ok (.aload_n 0, 1) := by decide +kernel
theorem dX11_broken_18 : decode cX11_broken 18 = .ok (.getfield 74, 3) := by decide +kernel
theorem dX11_broken_21 : decode cX11_broken 21 = .ok (.getfield 356, 3) := by decide +kernel
theorem dX11_broken_24 : decode cX11_broken 24 = .ok (.goto 4, 3) := by decide +kernel
theorem dX11_broken_27 : decode cX11_broken 27 = .ok (.iconst (-1), 1) := by decide +kernel
theorem dX11_broken_28 : decode cX11_broken 28 = .ok (.ireturn, 1) := by decide +kernel
theorem dX11_trials_0 : decode cX11_trials 0 = .ok (.iload_n 1, 1) := by decide +kernel
theorem dX11_trials_1 : decode cX11_trials 1 = .ok (.iconst 1, 1) := by decide +kernel
theorem dX11_trials_2 : decode cX11_trials 2 = .ok (.if_icmp .lt 27, 3) := by decide +kernel
theorem dX11_trials_5 : decode cX11_trials 5 = .ok (.iload_n 1, 1) := by decide +kernel
theorem dX11_trials_6 : decode cX11_trials 6 = .ok (.bipush 40, 2) := by decide +kernel
theorem dX11_trials_8 : decode cX11_trials 8 = .ok (.if_icmp .gt 21, 3) := by decide +kernel
theorem dX11_trials_11 : decode cX11_trials 11 = .ok (.aload_n 0, 1) := by decide +kernel
theorem dX11_trials_12 : decode cX11_trials 12 = .ok (.getfield 27, 3) := by decide +kernel
theorem dX11_trials_15 : decode cX11_trials 15 = .ok (.iload_n 2, 1) := by decide +kernel
theorem dX11_trials_16 : decode cX11_trials 16 = .ok (.invokevirtual 157, 3) := by decide +kernel
theorem dX11_trials_19 : decode cX11_trials 19 = .ok (.ifCond .eq 10, 3) := by decide +kernel
theorem dX11_trials_29 : decode cX11_trials 29 = .ok (.aload_n 0, 1) := by decide +kernel
theorem dX11_trials_30 : decode cX11_trials 30 = .ok (.iconst 4, 1) := by decide +kernel
theorem dX11_trials_31 : decode cX11_trials 31 = .ok (.invokevirtual 92, 3) := by decide +kernel
theorem dX11_trials_34 : decode cX11_trials 34 = .ok (.i2l, 1) := by decide +kernel
theorem dX11_trials_35 : decode cX11_trials 35 = .ok (.lreturn, 1) := by decide +kernel
theorem dX11_trial_0 : decode cX11_trial 0 = .ok (.aload_n 0, 1) := by decide +kernel
theorem dX11_trial_1 : decode cX11_trial 1 = .ok (.getfield 27, 3) := by decide +kernel
theorem dX11_trial_4 : decode cX11_trial 4 = .ok (.iload_n 1, 1) := by decide +kernel
theorem dX11_trial_5 : decode cX11_trial 5 = .ok (.invokevirtual 157, 3) := by decide +kernel
theorem dX11_trial_8 : decode cX11_trial 8 = .ok (.ifCond .eq 10, 3) := by decide +kernel
theorem dX11_trial_18 : decode cX11_trial 18 = .ok (.ldc2_w 194, 3) := by decide +kernel
theorem dX11_trial_21 : decode cX11_trial 21 = .ok (.lreturn, 1) := by decide +kernel
theorem dX11_seed_0 : decode cX11_seed 0 = .ok (.iload_n 1, 1) := by decide +kernel
theorem dX11_seed_1 : decode cX11_seed 1 = .ok (.ifCond .ge 11, 3) := by decide +kernel
theorem dX11_seed_4 : decode cX11_seed 4 = .ok (.aload_n 0, 1) := by decide +kernel
theorem dX11_seed_5 : decode cX11_seed 5 = .ok (.iconst 4, 1) := by decide +kernel
theorem dX11_seed_6 : decode cX11_seed 6 = .ok (.invokevirtual 92, 3) := by decide +kernel
theorem dX11_seed_9 : decode cX11_seed 9 = .ok (.pop, 1) := by decide +kernel
theorem dX11_seed_10 : decode cX11_seed 10 = .ok (.iconst 0, 1) := by decide +kernel
theorem dX11_seed_11 : decode cX11_seed 11 = .ok (.ireturn, 1) := by decide +kernel
theorem dX11_seed_12 : decode cX11_seed 12 = .ok (.aload_n 0, 1) := by decide +kernel
theorem dX11_seed_13 : decode cX11_seed 13 = .ok (.iload_n 1, 1) := by decide +kernel
theorem dX11_seed_14 : decode cX11_seed 14 = .ok (.putfield 85, 3) := by decide +kernel
theorem dX11_seed_17 : decode cX11_seed 17 = .ok (.iconst 1, 1) := by decide +kernel
theorem dX11_seed_18 : decode cX11_seed 18 = .ok (.ireturn, 1) := by decide +kernel
theorem dX11_status_0 : decode cX11_status 0 = .ok (.iload_n 1, 1) := by decide +kernel
theorem dX11_status_1 : decode cX11_status 1 = .ok (.ifCond .lt 17, 3) := by decide +kernel
theorem dX11_status_4 : decode cX11_status 4 = .ok (.iload_n 1, 1) := by decide +kernel
theorem dX11_status_5 : decode cX11_status 5 = .ok (.iconst 5, 1) := by decide +kernel
theorem dX11_status_6 : decode cX11_status 6 = .ok (.if_icmp .ge 12, 3) := by decide +kernel
theorem dX11_status_9 : decode cX11_status 9 = .ok (.aload_n 0, 1) := by decide +kernel
theorem dX11_status_10 : decode cX11_status 10 = .ok (.getfield 13, 3) := by decide +kernel
theorem dX11_status_13 : decode cX11_status 13 = .ok (.iload_n 1, 1) := by decide +kernel
theorem dX11_status_14 : decode cX11_status 14 = .ok (.iaload, 1) := by decide +kernel
theorem dX11_status_15 : decode cX11_status 15 = .ok (.goto 4, 3) := by decide +kernel
theorem dX11_status_18 : decode cX11_status 18 = .ok (.iconst (-1), 1) := by decide +kernel
theorem dX11_status_19 : decode cX11_status 19 = .ok (.ireturn, 1) := by decide +kernel
theorem dX11_refuse_0 : decode cX11_refuse 0 = .ok (.iload_n 1, 1) := by decide +kernel
theorem dX11_refuse_1 : decode cX11_refuse 1 = .ok (.ifCond .lt 18, 3) := by decide +kernel
theorem dX11_refuse_4 : decode cX11_refuse 4 = .ok (.iload_n 1, 1) := by decide +kernel
theorem dX11_refuse_5 : decode cX11_refuse 5 = .ok (.iconst 5, 1) := by decide +kernel
theorem dX11_refuse_6 : decode cX11_refuse 6 = .ok (.if_icmp .ge 13, 3) := by decide +kernel
theorem dX11_refuse_9 : decode cX11_refuse 9 = .ok (.aload_n 0, 1) := by decide +kernel
theorem dX11_refuse_10 : decode cX11_refuse 10 = .ok (.getfield 13, 3) := by decide +kernel
theorem dX11_refuse_13 : decode cX11_refuse 13 = .ok (.iload_n 1, 1) := by decide +kernel
theorem dX11_refuse_14 : decode cX11_refuse 14 = .ok (.dup2, 1) := by decide +kernel
theorem dX11_refuse_15 : decode cX11_refuse 15 = .ok (.iaload, 1) := by decide +kernel
theorem dX11_refuse_16 : decode cX11_refuse 16 = .ok (.iconst 1, 1) := by decide +kernel
theorem dX11_refuse_17 : decode cX11_refuse 17 = .ok (.iadd, 1) := by decide +kernel
theorem dX11_refuse_18 : decode cX11_refuse 18 = .ok (.iastore, 1) := by decide +kernel
theorem dX11_refuse_19 : decode cX11_refuse 19 = .ok (.iconst (-1), 1) := by decide +kernel
theorem dX11_refuse_20 : decode cX11_refuse 20 = .ok (.ireturn, 1) := by decide +kernel
theorem dX11_putBytes_0 : decode cX11_putBytes 0 = .ok (.bipush 24, 2) := by decide +kernel
theorem dX11_putBytes_2 : decode cX11_putBytes 2 = .ok (.istore_n 2, 1) := by decide +kernel
theorem dX11_putBytes_3 : decode cX11_putBytes 3 = .ok (.iload_n 2, 1) := by decide +kernel
theorem dX11_putBytes_4 : decode cX11_putBytes 4 = .ok (.ifCond .lt 42, 3) := by decide +kernel
theorem dX11_putBytes_7 : decode cX11_putBytes 7 = .ok (.aload_n 0, 1) := by decide +kernel
theorem dX11_putBytes_8 : decode cX11_putBytes 8 = .ok (.getfield 89, 3) := by decide +kernel
theorem dX11_putBytes_11 : decode cX11_putBytes 11 = .ok (.sipush 1200, 3) := by decide +kernel
theorem dX11_putBytes_14 : decode cX11_putBytes 14 = .ok (.if_icmp .ge 26, 3) := by decide +kernel
theorem dX11_putBytes_17 : decode cX11_putBytes 17 = .ok (.aload_n 0, 1) := by decide +kernel
theorem dX11_putBytes_18 : decode cX11_putBytes 18 = .ok (.getfield 9, 3) := by decide +kernel
theorem dX11_putBytes_21 : decode cX11_putBytes 21 = .ok (.aload_n 0, 1) := by decide +kernel
theorem dX11_putBytes_22 : decode cX11_putBytes 22 = .ok (.getfield 89, 3) := by decide +kernel
theorem dX11_putBytes_25 : decode cX11_putBytes 25 = .ok (.iload_n 1, 1) := by decide +kernel
theorem dX11_putBytes_26 : decode cX11_putBytes 26 = .ok (.iload_n 2, 1) := by decide +kernel
theorem dX11_putBytes_27 : decode cX11_putBytes 27 = .ok (.ishr, 1) := by decide +kernel
theorem dX11_putBytes_28 : decode cX11_putBytes 28 = .ok (.i2b, 1) := by decide +kernel
theorem dX11_putBytes_29 : decode cX11_putBytes 29 = .ok (.bastore, 1) := by decide +kernel
theorem dX11_putBytes_30 : decode cX11_putBytes 30 = .ok (.aload_n 0, 1) := by decide +kernel
theorem dX11_putBytes_31 : decode cX11_putBytes 31 = .ok (.dup, 1) := by decide +kernel
theorem dX11_putBytes_32 : decode cX11_putBytes 32 = .ok (.getfield 89, 3) := by decide +kernel
theorem dX11_putBytes_35 : decode cX11_putBytes 35 = .ok (.iconst 1, 1) := by decide +kernel
theorem dX11_putBytes_36 : decode cX11_putBytes 36 = .ok (.iadd, 1) := by decide +kernel
theorem dX11_putBytes_37 : decode cX11_putBytes 37 = .ok (.putfield 89, 3) := by decide +kernel
theorem dX11_putBytes_40 : decode cX11_putBytes 40 = .ok (.iinc 2 (-8), 3) := by decide +kernel
theorem dX11_putBytes_43 : decode cX11_putBytes 43 = .ok (.goto (-40), 3) := by decide +kernel
theorem dX11_putBytes_46 : decode cX11_putBytes 46 = .ok (.return_, 1) := by decide +kernel
theorem dX11_takeCheapest_0 : decode cX11_takeCheapest 0 = .ok (.aload_n 0, 1) := by decide +kernel
theorem dX11_takeCheapest_1 : decode cX11_takeCheapest 1 = .ok (.getfield 60, 3) := by decide +kernel
theorem dX11_takeCheapest_4 : decode cX11_takeCheapest 4 = .ok (.aload_n 0, 1) := by decide +kernel
theorem dX11_takeCheapest_5 : decode cX11_takeCheapest 5 = .ok (.getfield 27, 3) := by decide +kernel
theorem dX11_takeCheapest_8 : decode cX11_takeCheapest 8 = .ok (.invokevirtual 273, 3) := by decide +kernel
theorem dX11_takeCheapest_11 : decode cX11_takeCheapest 11 = .ok (.ifCond .eq 14, 3) := by decide +kernel
theorem dX11_takeCheapest_25 : decode cX11_takeCheapest 25 = .ok (.iconst 0, 1) := by decide +kernel
theorem dX11_takeCheapest_26 : decode cX11_takeCheapest 26 = .ok (.ireturn, 1) := by decide +kernel
theorem dX11_takeSingle_0 : decode cX11_takeSingle 0 = .ok (.aload_n 0, 1) := by decide +kernel
theorem dX11_takeSingle_1 : decode cX11_takeSingle 1 = .ok (.getfield 27, 3) := by decide +kernel
theorem dX11_takeSingle_4 : decode cX11_takeSingle 4 = .ok (.invokevirtual 220, 3) := by decide +kernel
theorem dX11_takeSingle_7 : decode cX11_takeSingle 7 = .ok (.ifCond .ne 5, 3) := by decide +kernel
theorem dX11_takeSingle_10 : decode cX11_takeSingle 10 = .ok (.iconst 0, 1) := by decide +kernel
theorem dX11_takeSingle_11 : decode cX11_takeSingle 11 = .ok (.ireturn, 1) := by decide +kernel
theorem dX12_isIn_0 : decode cX12_isIn 0 = .ok (.lload_n 0, 1) := by decide +kernel
theorem dX12_isIn_1 : decode cX12_isIn 1 = .ok (.lload_n 2, 1) := by decide +kernel
theorem dX12_isIn_2 : decode cX12_isIn 2 = .ok (.lcmp, 1) := by decide +kernel
theorem dX12_isIn_3 : decode cX12_isIn 3 = .ok (.ifCond .lt 14, 3) := by decide +kernel
theorem dX12_isIn_6 : decode cX12_isIn 6 = .ok (.lload_n 0, 1) := by decide +kernel
theorem dX12_isIn_7 : decode cX12_isIn 7 = .ok (.lload 4, 2) := by decide +kernel
theorem dX12_isIn_9 : decode cX12_isIn 9 = .ok (.lcmp, 1) := by decide +kernel
theorem dX12_isIn_10 : decode cX12_isIn 10 = .ok (.ifCond .gt 7, 3) := by decide +kernel
theorem dX12_isIn_13 : decode cX12_isIn 13 = .ok (.iconst 1, 1) := by decide +kernel
theorem dX12_isIn_14 : decode cX12_isIn 14 = .ok (.goto 4, 3) := by decide +kernel
theorem dX12_isIn_17 : decode cX12_isIn 17 = .ok (.iconst 0, 1) := by decide +kernel
theorem dX12_isIn_18 : decode cX12_isIn 18 = .ok (.ireturn, 1) := by decide +kernel
theorem dX12_refuses_0 : decode cX12_refuses 0 = .ok (.aload_n 0, 1) := by decide +kernel
theorem dX12_refuses_1 : decode cX12_refuses 1 = .ok (.getfield 17, 3) := by decide +kernel
theorem dX12_refuses_4 : decode cX12_refuses 4 = .ok (.iload_n 1, 1) := by decide +kernel
theorem dX12_refuses_5 : decode cX12_refuses 5 = .ok (.dup2, 1) := by decide +kernel
theorem dX12_refuses_6 : decode cX12_refuses 6 = .ok (.iaload, 1) := by decide +kernel
theorem dX12_refuses_7 : decode cX12_refuses 7 = .ok (.iconst 1, 1) := by decide +kernel
theorem dX12_refuses_8 : decode cX12_refuses 8 = .ok (.iadd, 1) := by decide +kernel
theorem dX12_refuses_9 : decode cX12_refuses 9 = .ok (.iastore, 1) := by decide +kernel
theorem dX12_refuses_10 : decode cX12_refuses 10 = .ok (.iconst (-1), 1) := by decide +kernel
theorem dX12_refuses_11 : decode cX12_refuses 11 = .ok (.ireturn, 1) := by decide +kernel
theorem dX12_isRefused_0 : decode cX12_isRefused 0 = .ok (.aload_n 0, 1) := by decide +kernel
theorem dX12_isRefused_1 : decode cX12_isRefused 1 = .ok (.getfield 17, 3) := by decide +kernel
theorem dX12_isRefused_4 : decode cX12_isRefused 4 = .ok (.iload_n 1, 1) := by decide +kernel
theorem dX12_isRefused_5 : decode cX12_isRefused 5 = .ok (.dup2, 1) := by decide +kernel
theorem dX12_isRefused_6 : decode cX12_isRefused 6 = .ok (.iaload, 1) := by decide +kernel
theorem dX12_isRefused_7 : decode cX12_isRefused 7 = .ok (.iconst 1, 1) := by decide +kernel
theorem dX12_isRefused_8 : decode cX12_isRefused 8 = .ok (.iadd, 1) := by decide +kernel
theorem dX12_isRefused_9 : decode cX12_isRefused 9 = .ok (.iastore, 1) := by decide +kernel
theorem dX12_isRefused_10 : decode cX12_isRefused 10 = .ok (.iconst 0, 1) := by decide +kernel
theorem dX12_isRefused_11 : decode cX12_isRefused 11 = .ok (.ireturn, 1) := by decide +kernel
theorem dX12_lays_0 : decode cX12_lays 0 = .ok (.iconst 0, 1) := by decide +kernel
theorem dX12_lays_1 : decode cX12_lays 1 = .ok (.istore_n 2, 1) := by decide +kernel
theorem dX12_lays_2 : decode cX12_lays 2 = .ok (.iload_n 2, 1) := by decide +kernel
theorem dX12_lays_3 : decode cX12_lays 3 = .ok (.iconst 4, 1) := by decide +kernel
theorem dX12_lays_4 : decode cX12_lays 4 = .ok (.if_icmp .ge 33, 3) := by decide +kernel
theorem dX12_lays_7 : decode cX12_lays 7 = .ok (.aload_n 0, 1) := by decide +kernel
theorem dX12_lays_8 : decode cX12_lays 8 = .ok (.getfield 7, 3) := by decide +kernel
theorem dX12_lays_11 : decode cX12_lays 11 = .ok (.aload_n 0, 1) := by decide +kernel
theorem dX12_lays_12 : decode cX12_lays 12 = .ok (.getfield 13, 3) := by decide +kernel
theorem dX12_lays_15 : decode cX12_lays 15 = .ok (.iload_n 2, 1) := by decide +kernel
theorem dX12_lays_16 : decode cX12_lays 16 = .ok (.iadd, 1) := by decide +kernel
theorem dX12_lays_17 : decode cX12_lays 17 = .ok (.iload_n 1, 1) := by decide +kernel
theorem dX12_lays_18 : decode cX12_lays 18 = .ok (.bipush 24, 2) := by decide +kernel
theorem dX12_lays_20 : decode cX12_lays 20 = .ok (.bipush 8, 2) := by decide +kernel
theorem dX12_lays_22 : decode cX12_lays 22 = .ok (.iload_n 2, 1) := by decide +kernel
theorem dX12_lays_23 : decode cX12_lays 23 = .ok (.imul, 1) := by decide +kernel
theorem dX12_lays_24 : decode cX12_lays 24 = .ok (.isub, 1) := by decide +kernel
theorem dX12_lays_25 : decode cX12_lays 25 = .ok (.ishr, 1) := by decide +kernel
theorem dX12_lays_26 : decode cX12_lays 26 = .ok (.sipush 255, 3) := by decide +kernel
theorem dX12_lays_29 : decode cX12_lays 29 = .ok (.iand, 1) := by decide +kernel
theorem dX12_lays_30 : decode cX12_lays 30 = .ok (.iastore, 1) := by decide +kernel
theorem dX12_lays_31 : decode cX12_lays 31 = .ok (.iinc 2 1, 3) := by decide +kernel
theorem dX12_lays_34 : decode cX12_lays 34 = .ok (.goto (-32), 3) := by decide +kernel
theorem dX12_lays_37 : decode cX12_lays 37 = .ok (.aload_n 0, 1) := by decide +kernel
theorem dX12_lays_38 : decode cX12_lays 38 = .ok (.dup, 1) := by decide +kernel
theorem dX12_lays_39 : decode cX12_lays 39 = .ok (.getfield 13, 3) := by decide +kernel
theorem dX12_lays_42 : decode cX12_lays 42 = .ok (.iconst 4, 1) := by decide +kernel
theorem dX12_lays_43 : decode cX12_lays 43 = .ok (.iadd, 1) := by decide +kernel
theorem dX12_lays_44 : decode cX12_lays 44 = .ok (.putfield 13, 3) := by decide +kernel
theorem dX12_lays_47 : decode cX12_lays 47 = .ok (.return_, 1) := by decide +kernel
theorem dX12_feed_0 : decode cX12_feed 0 = .ok (.aload_n 0, 1) := by decide +kernel
theorem dX12_feed_1 : decode cX12_feed 1 = .ok (.getfield 13, 3) := by decide +kernel
theorem dX12_feed_4 : decode cX12_feed 4 = .ok (.bipush 20, 2) := by decide +kernel
theorem dX12_feed_6 : decode cX12_feed 6 = .ok (.iadd, 1) := by decide +kernel
theorem dX12_feed_7 : decode cX12_feed 7 = .ok (.sipush 1200, 3) := by decide +kernel
theorem dX12_feed_10 : decode cX12_feed 10 = .ok (.if_icmp .le 9, 3) := by decide +kernel
theorem dX12_feed_19 : decode cX12_feed 19 = .ok (.aload_n 0, 1) := by decide +kernel
theorem dX12_feed_20 : decode cX12_feed 20 = .ok (.iload_n 1, 1) := by decide +kernel
theorem dX12_feed_21 : decode cX12_feed 21 = .ok (.invokevirtual 220, 3) := by decide +kernel
theorem dX12_feed_24 : decode cX12_feed 24 = .ok (.aload_n 0, 1) := by decide +kernel
theorem dX12_feed_25 : decode cX12_feed 25 = .ok (.iload_n 2, 1) := by decide +kernel
theorem dX12_feed_26 : decode cX12_feed 26 = .ok (.invokevirtual 220, 3) := by decide +kernel
theorem dX12_feed_29 : decode cX12_feed 29 = .ok (.aload_n 0, 1) := by decide +kernel
theorem dX12_feed_30 : decode cX12_feed 30 = .ok (.iload_n 3, 1) := by decide +kernel
theorem dX12_feed_31 : decode cX12_feed 31 = .ok (.invokevirtual 220, 3) := by decide +kernel
theorem dX12_feed_34 : decode cX12_feed 34 = .ok (.aload_n 0, 1) := by decide +kernel
theorem dX12_feed_35 : decode cX12_feed 35 = .ok (.iload 4, 2) := by decide +kernel
theorem dX12_feed_37 : decode cX12_feed 37 = .ok (.invokevirtual 220, 3) := by decide +kernel
theorem dX12_feed_40 : decode cX12_feed 40 = .ok (.aload_n 0, 1) := by decide +kernel
theorem dX12_feed_41 : decode cX12_feed 41 = .ok (.iload 5, 2) := by decide +kernel
theorem dX12_feed_43 : decode cX12_feed 43 = .ok (.invokevirtual 220, 3) := by decide +kernel
theorem dX12_feed_46 : decode cX12_feed 46 = .ok (.aload_n 0, 1) := by decide +kernel
theorem dX12_feed_47 : decode cX12_feed 47 = .ok (.getfield 13, 3) := by decide +kernel
theorem dX12_feed_50 : decode cX12_feed 50 = .ok (.ireturn, 1) := by decide +kernel
theorem dX12_end_0 : decode cX12_end 0 = .ok (.iload_n 1, 1) := by decide +kernel
theorem dX12_end_1 : decode cX12_end 1 = .ok (.ifCond .lt 11, 3) := by decide +kernel
theorem dX12_end_4 : decode cX12_end 4 = .ok (.iload_n 1, 1) := by decide +kernel
theorem dX12_end_5 : decode cX12_end 5 = .ok (.aload_n 0, 1) := by decide +kernel
theorem dX12_end_6 : decode cX12_end 6 = .ok (.getfield 13, 3) := by decide +kernel
theorem dX12_end_9 : decode cX12_end 9 = .ok (.if_icmp .le 9, 3) := by decide +kernel
theorem dX12_end_12 : decode cX12_end 12 = .ok (.aload_n 0, 1) := by decide +kernel
theorem dX12_end_13 : decode cX12_end 13 = .ok (.iconst 0, 1) := by decide +kernel
theorem dX12_end_14 : decode cX12_end 14 = .ok (.invokevirtual 224, 3) := by decide +kernel
theorem dX12_end_17 : decode cX12_end 17 = .ok (.ireturn, 1) := by decide +kernel
theorem dX12_end_18 : decode cX12_end 18 = .ok (.aload_n 0, 1) := by decide +kernel
theorem dX12_end_19 : decode cX12_end 19 = .ok (.iload_n 1, 1) := by decide +kernel
theorem dX12_end_20 : decode cX12_end 20 = .ok (.putfield 13, 3) := by decide +kernel
theorem dX12_end_23 : decode cX12_end 23 = .ok (.iconst 1, 1) := by decide +kernel
theorem dX12_end_24 : decode cX12_end 24 = .ok (.ireturn, 1) := by decide +kernel
theorem dX12_byteAt_0 : decode cX12_byteAt 0 = .ok (.iload_n 1, 1) := by decide +kernel
theorem dX12_byteAt_1 : decode cX12_byteAt 1 = .ok (.ifCond .lt 20, 3) := by decide +kernel
theorem dX12_byteAt_4 : decode cX12_byteAt 4 = .ok (.iload_n 1, 1) := by decide +kernel
theorem dX12_byteAt_5 : decode cX12_byteAt 5 = .ok (.aload_n 0, 1) := by decide +kernel
theorem dX12_byteAt_6 : decode cX12_byteAt 6 = .ok (.getfield 26, 3) := by decide +kernel
theorem dX12_byteAt_9 : decode cX12_byteAt 9 = .ok (.if_icmp .ge 12, 3) := by decide +kernel
theorem dX12_byteAt_21 : decode cX12_byteAt 21 = .ok (.iconst (-1), 1) := by decide +kernel
theorem dX12_byteAt_22 : decode cX12_byteAt 22 = .ok (.ireturn, 1) := by decide +kernel
theorem dX12_here_0 : decode cX12_here 0 = .ok (.aload_n 0, 1) := by decide +kernel
theorem dX12_here_1 : decode cX12_here 1 = .ok (.aload_n 0, 1) := by decide +kernel
theorem dX12_here_2 : decode cX12_here 2 = .ok (.getfield 29, 3) := by decide +kernel
theorem dX12_here_5 : decode cX12_here 5 = .ok (.invokevirtual 228, 3) := by decide +kernel
theorem dX12_here_8 : decode cX12_here 8 = .ok (.bipush 10, 2) := by decide +kernel
theorem dX12_here_10 : decode cX12_here 10 = .ok (.if_icmp .eq 16, 3) := by decide +kernel
theorem dX12_here_13 : decode cX12_here 13 = .ok (.aload_n 0, 1) := by decide +kernel
theorem dX12_here_14 : decode cX12_here 14 = .ok (.aload_n 0, 1) := by decide +kernel
theorem dX12_here_15 : decode cX12_here 15 = .ok (.getfield 29, 3) := by decide +kernel
theorem dX12_here_18 : decode cX12_here 18 = .ok (.invokevirtual 228, 3) := by decide +kernel
theorem dX12_here_21 : decode cX12_here 21 = .ok (.bipush 32, 2) := by decide +kernel
theorem dX12_here_23 : decode cX12_here 23 = .ok (.if_icmp .ne 16, 3) := by decide +kernel
theorem dX12_here_39 : decode cX12_here 39 = .ok (.aload_n 0, 1) := by decide +kernel
theorem dX12_here_40 : decode cX12_here 40 = .ok (.aload_n 0, 1) := by decide +kernel
theorem dX12_here_41 : decode cX12_here 41 = .ok (.getfield 29, 3) := by decide +kernel
theorem dX12_here_44 : decode cX12_here 44 = .ok (.invokevirtual 228, 3) := by decide +kernel
theorem dX12_here_47 : decode cX12_here 47 = .ok (.ireturn, 1) := by decide +kernel
theorem dX12_faults_0 : decode cX12_faults 0 = .ok (.aload_n 0, 1) := by decide +kernel
theorem dX12_faults_1 : decode cX12_faults 1 = .ok (.getfield 35, 3) := by decide +kernel
theorem dX12_faults_4 : decode cX12_faults 4 = .ok (.ifCond .eq 4, 3) := by decide +kernel
theorem dX12_faults_8 : decode cX12_faults 8 = .ok (.aload_n 0, 1) := by decide +kernel
theorem dX12_faults_9 : decode cX12_faults 9 = .ok (.iload_n 1, 1) := by decide +kernel
theorem dX12_faults_10 : decode cX12_faults 10 = .ok (.putfield 35, 3) := by decide +kernel
theorem dX12_faults_13 : decode cX12_faults 13 = .ok (.aload_n 0, 1) := by decide +kernel
theorem dX12_faults_14 : decode cX12_faults 14 = .ok (.iload_n 2, 1) := by decide +kernel
theorem dX12_faults_15 : decode cX12_faults 15 = .ok (.putfield 38, 3) := by decide +kernel
theorem dX12_faults_18 : decode cX12_faults 18 = .ok (.return_, 1) := by decide +kernel
theorem dX12_goesWell_0 : decode cX12_goesWell 0 = .ok (.aload_n 0, 1) := by decide +kernel
theorem dX12_goesWell_1 : decode cX12_goesWell 1 = .ok (.getfield 35, 3) := by decide +kernel
theorem dX12_goesWell_4 : decode cX12_goesWell 4 = .ok (.ifCond .ne 7, 3) := by decide +kernel
theorem dX12_goesWell_7 : decode cX12_goesWell 7 = .ok (.iconst 1, 1) := by decide +kernel
theorem dX12_goesWell_8 : decode cX12_goesWell 8 = .ok (.goto 4, 3) := by decide +kernel
theorem dX12_goesWell_12 : decode cX12_goesWell 12 = .ok (.ireturn, 1) := by decide +kernel
theorem dX12_task_0 : decode cX12_task 0 = .ok (.aload_n 0, 1) := by decide +kernel
theorem dX12_task_1 : decode cX12_task 1 = .ok (.aload_n 0, 1) := by decide +kernel
theorem dX12_task_2 : decode cX12_task 2 = .ok (.getfield 13, 3) := by decide +kernel
theorem dX12_task_5 : decode cX12_task 5 = .ok (.putfield 26, 3) := by decide +kernel
theorem dX12_task_8 : decode cX12_task 8 = .ok (.aload_n 0, 1) := by decide +kernel
theorem dX12_task_9 : decode cX12_task 9 = .ok (.iconst 0, 1) := by decide +kernel
theorem dX12_task_10 : decode cX12_task 10 = .ok (.putfield 13, 3) := by decide +kernel
theorem dX12_task_13 : decode cX12_task 13 = .ok (.aload_n 0, 1) := by decide +kernel
theorem dX12_task_14 : decode cX12_task 14 = .ok (.iconst 0, 1) := by decide +kernel
theorem dX12_task_15 : decode cX12_task 15 = .ok (.putfield 29, 3) := by decide +kernel
theorem dX12_task_18 : decode cX12_task 18 = .ok (.aload_n 0, 1) := by decide +kernel
theorem dX12_task_19 : decode cX12_task 19 = .ok (.iconst 0, 1) := by decide +kernel
theorem dX12_task_20 : decode cX12_task 20 = .ok (.putfield 35, 3) := by decide +kernel
theorem dX12_task_23 : decode cX12_task 23 = .ok (.aload_n 0, 1) := by decide +kernel
theorem dX12_task_24 : decode cX12_task 24 = .ok (.iconst (-1), 1) := by decide +kernel
theorem dX12_task_25 : decode cX12_task 25 = .ok (.putfield 38, 3) := by decide +kernel
theorem dX12_task_28 : decode cX12_task 28 = .ok (.aload_n 0, 1) := by decide +kernel
theorem dX12_task_29 : decode cX12_task 29 = .ok (.iconst 1, 1) := by decide +kernel
theorem dX12_task_30 : decode cX12_task 30 = .ok (.putfield 44, 3) := by decide +kernel
theorem dX12_task_33 : decode cX12_task 33 = .ok (.aload_n 0, 1) := by decide +kernel
theorem dX12_task_34 : decode cX12_task 34 = .ok (.getfield 47, 3) := by decide +kernel
theorem dX12_task_37 : decode cX12_task 37 = .ok (.iconst 1, 1) := by decide +kernel
theorem dX12_task_38 : decode cX12_task 38 = .ok (.iconst 0, 1) := by decide +kernel
theorem dX12_task_39 : decode cX12_task 39 = .ok (.iastore, 1) := by decide +kernel
theorem dX12_task_40 : decode cX12_task 40 = .ok (.aload_n 0, 1) := by decide +kernel
theorem dX12_task_41 : decode cX12_task 41 = .ok (.getfield 62, 3) := by decide +kernel
theorem dX12_task_44 : decode cX12_task 44 = .ok (.iconst 1, 1) := by decide +kernel
theorem dX12_task_45 : decode cX12_task 45 = .ok (.iconst 0, 1) := by decide +kernel
theorem dX12_task_46 : decode cX12_task 46 = .ok (.iastore, 1) := by decide +kernel
theorem dX12_task_47 : decode cX12_task 47 = .ok (.aload_n 0, 1) := by decide +kernel
theorem dX12_task_48 : decode cX12_task 48 = .ok (.getfield 84, 3) := by decide +kernel
theorem dX12_task_51 : decode cX12_task 51 = .ok (.iconst 1, 1) := by decide +kernel
theorem dX12_task_52 : decode cX12_task 52 = .ok (.iconst 1, 1) := by decide +kernel
theorem dX12_task_53 : decode cX12_task 53 = .ok (.iastore, 1) := by decide +kernel
theorem dX12_task_54 : decode cX12_task 54 = .ok (.iconst 0, 1) := by decide +kernel
theorem dX12_task_55 : decode cX12_task 55 = .ok (.istore_n 1, 1) := by decide +kernel
theorem dX12_task_56 : decode cX12_task 56 = .ok (.aload_n 0, 1) := by decide +kernel
theorem dX12_task_57 : decode cX12_task 57 = .ok (.invokevirtual 231, 3) := by decide +kernel
theorem dX12_task_60 : decode cX12_task 60 = .ok (.ifCond .eq 22, 3) := by decide +kernel
theorem dX12_task_63 : decode cX12_task 63 = .ok (.aload_n 0, 1) := by decide +kernel
theorem dX12_task_64 : decode cX12_task 64 = .ok (.invokevirtual 235, 3) := by decide +kernel
theorem dX12_task_67 : decode cX12_task 67 = .ok (.iconst (-1), 1) := by decide +kernel
theorem dX12_task_68 : decode cX12_task 68 = .ok (.if_icmp .eq 14, 3) := by decide +kernel
theorem dX12_task_82 : decode cX12_task 82 = .ok (.aload_n 0, 1) := by decide +kernel
theorem dX12_task_83 : decode cX12_task 83 = .ok (.invokevirtual 231, 3) := by decide +kernel
theorem dX12_task_86 : decode cX12_task 86 = .ok (.ifCond .eq 30, 3) := by decide +kernel
theorem dX12_task_89 : decode cX12_task 89 = .ok (.aload_n 0, 1) := by decide +kernel
theorem dX12_task_90 : decode cX12_task 90 = .ok (.getfield 47, 3) := by decide +kernel
theorem dX12_task_93 : decode cX12_task 93 = .ok (.iconst 1, 1) := by decide +kernel
theorem dX12_task_94 : decode cX12_task 94 = .ok (.iaload, 1) := by decide +kernel
theorem dX12_task_95 : decode cX12_task 95 = .ok (.ifCond .eq 12, 3) := by decide +kernel
theorem dX12_task_107 : decode cX12_task 107 = .ok (.aload_n 0, 1) := by decide +kernel
theorem dX12_task_108 : decode cX12_task 108 = .ok (.iconst 4, 1) := by decide +kernel
theorem dX12_task_109 : decode cX12_task 109 = .ok (.aload_n 0, 1) := by decide +kernel
theorem dX12_task_110 : decode cX12_task 110 = .ok (.getfield 26, 3) := by decide +kernel
theorem dX12_task_113 : decode cX12_task 113 = .ok (.invokevirtual 239, 3) := by decide +kernel
theorem dX12_task_116 : decode cX12_task 116 = .ok (.aload_n 0, 1) := by decide +kernel
theorem dX12_task_117 : decode cX12_task 117 = .ok (.iconst 0, 1) := by decide +kernel
theorem dX12_task_118 : decode cX12_task 118 = .ok (.putfield 44, 3) := by decide +kernel
theorem dX12_task_121 : decode cX12_task 121 = .ok (.aload_n 0, 1) := by decide +kernel
theorem dX12_task_122 : decode cX12_task 122 = .ok (.aload_n 0, 1) := by decide +kernel
theorem dX12_task_123 : decode cX12_task 123 = .ok (.getfield 35, 3) := by decide +kernel
theorem dX12_task_126 : decode cX12_task 126 = .ok (.putfield 20, 3) := by decide +kernel
theorem dX12_task_129 : decode cX12_task 129 = .ok (.aload_n 0, 1) := by decide +kernel
theorem dX12_task_130 : decode cX12_task 130 = .ok (.aload_n 0, 1) := by decide +kernel
theorem dX12_task_131 : decode cX12_task 131 = .ok (.getfield 38, 3) := by decide +kernel
theorem dX12_task_134 : decode cX12_task 134 = .ok (.putfield 23, 3) := by decide +kernel
theorem dX12_task_137 : decode cX12_task 137 = .ok (.aload_n 0, 1) := by decide +kernel
theorem dX12_task_138 : decode cX12_task 138 = .ok (.getfield 35, 3) := by decide +kernel
theorem dX12_task_141 : decode cX12_task 141 = .ok (.ifCond .eq 9, 3) := by decide +kernel
theorem dX12_task_144 : decode cX12_task 144 = .ok (.aload_n 0, 1) := by decide +kernel
theorem dX12_task_145 : decode cX12_task 145 = .ok (.iconst 1, 1) := by decide +kernel
theorem dX12_task_146 : decode cX12_task 146 = .ok (.invokevirtual 216, 3) := by decide +kernel
theorem dX12_task_149 : decode cX12_task 149 = .ok (.ireturn, 1) := by decide +kernel
theorem dX12_fault_0 : decode cX12_fault 0 = .ok (.iload_n 1, 1) := by decide +kernel
theorem dX12_fault_1 : decode cX12_fault 1 = .ok (.ifCond .ne 10, 3) := by decide +kernel
theorem dX12_fault_4 : decode cX12_fault 4 = .ok (.aload_n 0, 1) := by decide +kernel
theorem dX12_fault_5 : decode cX12_fault 5 = .ok (.getfield 20, 3) := by decide +kernel
theorem dX12_fault_8 : decode cX12_fault 8 = .ok (.goto 16, 3) := by decide +kernel
theorem dX12_fault_11 : decode cX12_fault 11 = .ok (.iload_n 1, 1) := by decide +kernel
theorem dX12_fault_12 : decode cX12_fault 12 = .ok (.iconst 1, 1) := by decide +kernel
theorem dX12_fault_13 : decode cX12_fault 13 = .ok (.if_icmp .ne 10, 3) := by decide +kernel
theorem dX12_fault_16 : decode cX12_fault 16 = .ok (.aload_n 0, 1) := by decide +kernel
theorem dX12_fault_17 : decode cX12_fault 17 = .ok (.getfield 23, 3) := by decide +kernel
theorem dX12_fault_20 : decode cX12_fault 20 = .ok (.goto 4, 3) := by decide +kernel
theorem dX12_fault_23 : decode cX12_fault 23 = .ok (.iconst (-1), 1) := by decide +kernel
theorem dX12_fault_24 : decode cX12_fault 24 = .ok (.ireturn, 1) := by decide +kernel
theorem dX12_isNumber_0 : decode cX12_isNumber 0 = .ok (.iload_n 1, 1) := by decide +kernel
theorem dX12_isNumber_1 : decode cX12_isNumber 1 = .ok (.i2l, 1) := by decide +kernel
theorem dX12_isNumber_2 : decode cX12_isNumber 2 = .ok (.lconst 0, 1) := by decide +kernel
theorem dX12_isNumber_3 : decode cX12_isNumber 3 = .ok (.aload_n 0, 1) := by decide +kernel
theorem dX12_isNumber_4 : decode cX12_isNumber 4 = .ok (.getfield 62, 3) := by decide +kernel
theorem dX12_isNumber_7 : decode cX12_isNumber 7 = .ok (.iconst 0, 1) := by decide +kernel
theorem dX12_isNumber_8 : decode cX12_isNumber 8 = .ok (.iaload, 1) := by decide +kernel
theorem dX12_isNumber_9 : decode cX12_isNumber 9 = .ok (.i2l, 1) := by decide +kernel
theorem dX12_isNumber_10 : decode cX12_isNumber 10 = .ok (.lconst 1, 1) := by decide +kernel
theorem dX12_isNumber_11 : decode cX12_isNumber 11 = .ok (.lsub, 1) := by decide +kernel
theorem dX12_isNumber_12 : decode cX12_isNumber 12 = .ok (.invokestatic 263, 3) := by decide +kernel
theorem dX12_isNumber_15 : decode cX12_isNumber 15 = .ok (.ireturn, 1) := by decide +kernel
theorem dX12_isFormat_0 : decode cX12_isFormat 0 = .ok (.iload_n 1, 1) := by decide +kernel
theorem dX12_isFormat_1 : decode cX12_isFormat 1 = .ok (.i2l, 1) := by decide +kernel
theorem dX12_isFormat_2 : decode cX12_isFormat 2 = .ok (.lconst 0, 1) := by decide +kernel
theorem dX12_isFormat_3 : decode cX12_isFormat 3 = .ok (.aload_n 0, 1) := by decide +kernel
theorem dX12_isFormat_4 : decode cX12_isFormat 4 = .ok (.getfield 47, 3) := by decide +kernel
theorem dX12_isFormat_7 : decode cX12_isFormat 7 = .ok (.iconst 0, 1) := by decide +kernel
theorem dX12_isFormat_8 : decode cX12_isFormat 8 = .ok (.iaload, 1) := by decide +kernel
theorem dX12_isFormat_9 : decode cX12_isFormat 9 = .ok (.i2l, 1) := by decide +kernel
theorem dX12_isFormat_10 : decode cX12_isFormat 10 = .ok (.lconst 1, 1) := by decide +kernel
theorem dX12_isFormat_11 : decode cX12_isFormat 11 = .ok (.lsub, 1) := by decide +kernel
theorem dX12_isFormat_12 : decode cX12_isFormat 12 = .ok (.invokestatic 263, 3) := by decide +kernel
theorem dX12_isFormat_15 : decode cX12_isFormat 15 = .ok (.ireturn, 1) := by decide +kernel
theorem dX12_inputs_0 : decode cX12_inputs 0 = .ok (.iconst 0, 1) := by decide +kernel
theorem dX12_inputs_1 : decode cX12_inputs 1 = .ok (.istore_n 1, 1) := by decide +kernel
theorem dX12_inputs_2 : decode cX12_inputs 2 = .ok (.iconst 0, 1) := by decide +kernel
theorem dX12_inputs_3 : decode cX12_inputs 3 = .ok (.istore_n 2, 1) := by decide +kernel
theorem dX12_inputs_4 : decode cX12_inputs 4 = .ok (.iload_n 2, 1) := by decide +kernel
theorem dX12_inputs_5 : decode cX12_inputs 5 = .ok (.aload_n 0, 1) := by decide +kernel
theorem dX12_inputs_6 : decode cX12_inputs 6 = .ok (.getfield 62, 3) := by decide +kernel
theorem dX12_inputs_9 : decode cX12_inputs 9 = .ok (.iconst 0, 1) := by decide +kernel
theorem dX12_inputs_10 : decode cX12_inputs 10 = .ok (.iaload, 1) := by decide +kernel
theorem dX12_inputs_11 : decode cX12_inputs 11 = .ok (.if_icmp .ge 26, 3) := by decide +kernel
theorem dX12_inputs_37 : decode cX12_inputs 37 = .ok (.iload_n 1, 1) := by decide +kernel
theorem dX12_inputs_38 : decode cX12_inputs 38 = .ok (.ireturn, 1) := by decide +kernel
theorem dX12_answers_0 : decode cX12_answers 0 = .ok (.iconst 0, 1) := by decide +kernel
theorem dX12_answers_1 : decode cX12_answers 1 = .ok (.istore_n 1, 1) := by decide +kernel
theorem dX12_answers_2 : decode cX12_answers 2 = .ok (.iconst 0, 1) := by decide +kernel
theorem dX12_answers_3 : decode cX12_answers 3 = .ok (.istore_n 2, 1) := by decide +kernel
theorem dX12_answers_4 : decode cX12_answers 4 = .ok (.iload_n 2, 1) := by decide +kernel
theorem dX12_answers_5 : decode cX12_answers 5 = .ok (.aload_n 0, 1) := by decide +kernel
theorem dX12_answers_6 : decode cX12_answers 6 = .ok (.getfield 62, 3) := by decide +kernel
theorem dX12_answers_9 : decode cX12_answers 9 = .ok (.iconst 0, 1) := by decide +kernel
theorem dX12_answers_10 : decode cX12_answers 10 = .ok (.iaload, 1) := by decide +kernel
theorem dX12_answers_11 : decode cX12_answers 11 = .ok (.if_icmp .ge 27, 3) := by decide +kernel
theorem dX12_answers_38 : decode cX12_answers 38 = .ok (.iload_n 1, 1) := by decide +kernel
theorem dX12_answers_39 : decode cX12_answers 39 = .ok (.ireturn, 1) := by decide +kernel
theorem dX12_groups_0 : decode cX12_groups 0 = .ok (.iconst 0, 1) := by decide +kernel
theorem dX12_groups_1 : decode cX12_groups 1 = .ok (.istore_n 1, 1) := by decide +kernel
theorem dX12_groups_2 : decode cX12_groups 2 = .ok (.iconst 0, 1) := by decide +kernel
theorem dX12_groups_3 : decode cX12_groups 3 = .ok (.istore_n 2, 1) := by decide +kernel
theorem dX12_groups_4 : decode cX12_groups 4 = .ok (.iload_n 2, 1) := by decide +kernel
theorem dX12_groups_5 : decode cX12_groups 5 = .ok (.aload_n 0, 1) := by decide +kernel
theorem dX12_groups_6 : decode cX12_groups 6 = .ok (.getfield 62, 3) := by decide +kernel
theorem dX12_groups_9 : decode cX12_groups 9 = .ok (.iconst 0, 1) := by decide +kernel
theorem dX12_groups_10 : decode cX12_groups 10 = .ok (.iaload, 1) := by decide +kernel
theorem dX12_groups_11 : decode cX12_groups 11 = .ok (.if_icmp .ge 27, 3) := by decide +kernel
theorem dX12_groups_38 : decode cX12_groups 38 = .ok (.iload_n 1, 1) := by decide +kernel
theorem dX12_groups_39 : decode cX12_groups 39 = .ok (.ireturn, 1) := by decide +kernel
theorem dX12_laysFree_0 : decode cX12_laysFree 0 = .ok (.aload_n 0, 1) := by decide +kernel
theorem dX12_laysFree_1 : decode cX12_laysFree 1 = .ok (.iconst 0, 1) := by decide +kernel
theorem dX12_laysFree_2 : decode cX12_laysFree 2 = .ok (.putfield 103, 3) := by decide +kernel
theorem dX12_laysFree_5 : decode cX12_laysFree 5 = .ok (.iconst 0, 1) := by decide +kernel
theorem dX12_laysFree_6 : decode cX12_laysFree 6 = .ok (.istore_n 1, 1) := by decide +kernel
theorem dX12_laysFree_7 : decode cX12_laysFree 7 = .ok (.iload_n 1, 1) := by decide +kernel
theorem dX12_laysFree_8 : decode cX12_laysFree 8 = .ok (.aload_n 0, 1) := by decide +kernel
theorem dX12_laysFree_9 : decode cX12_laysFree 9 = .ok (.getfield 62, 3) := by decide +kernel
theorem dX12_laysFree_12 : decode cX12_laysFree 12 = .ok (.iconst 0, 1) := by decide +kernel
theorem dX12_laysFree_13 : decode cX12_laysFree 13 = .ok (.iaload, 1) := by decide +kernel
theorem dX12_laysFree_14 : decode cX12_laysFree 14 = .ok (.if_icmp .ge 50, 3) := by decide +kernel
theorem dX12_laysFree_64 : decode cX12_laysFree 64 = .ok (.return_, 1) := by decide +kernel
theorem dX12_has_0 : decode cX12_has 0 = .ok (.aload_n 0, 1) := by decide +kernel
theorem dX12_has_1 : decode cX12_has 1 = .ok (.invokevirtual 358, 3) := by decide +kernel
theorem dX12_has_4 : decode cX12_has 4 = .ok (.iload_n 1, 1) := by decide +kernel
theorem dX12_has_5 : decode cX12_has 5 = .ok (.tableswitch 106 0 7 #[47, 54, 61, 66, 71, 76, 81, 101], 47) := by decide +kernel
theorem dX12_has_52 : decode cX12_has 52 = .ok (.aload_n 0, 1) := by decide +kernel
theorem dX12_has_53 : decode cX12_has 53 = .ok (.getfield 62, 3) := by decide +kernel
theorem dX12_has_56 : decode cX12_has 56 = .ok (.iconst 0, 1) := by decide +kernel
theorem dX12_has_57 : decode cX12_has 57 = .ok (.iaload, 1) := by decide +kernel
theorem dX12_has_58 : decode cX12_has 58 = .ok (.ireturn, 1) := by decide +kernel
theorem dX12_has_59 : decode cX12_has 59 = .ok (.aload_n 0, 1) := by decide +kernel
theorem dX12_has_60 : decode cX12_has 60 = .ok (.getfield 47, 3) := by decide +kernel
theorem dX12_has_63 : decode cX12_has 63 = .ok (.iconst 0, 1) := by decide +kernel
theorem dX12_has_64 : decode cX12_has 64 = .ok (.iaload, 1) := by decide +kernel
theorem dX12_has_65 : decode cX12_has 65 = .ok (.ireturn, 1) := by decide +kernel
theorem dX12_has_66 : decode cX12_has 66 = .ok (.aload_n 0, 1) := by decide +kernel
theorem dX12_has_67 : decode cX12_has 67 = .ok (.invokevirtual 361, 3) := by decide +kernel
theorem dX12_has_70 : decode cX12_has 70 = .ok (.ireturn, 1) := by decide +kernel
theorem dX12_has_71 : decode cX12_has 71 = .ok (.aload_n 0, 1) := by decide +kernel
theorem dX12_has_72 : decode cX12_has 72 = .ok (.invokevirtual 364, 3) := by decide +kernel
theorem dX12_has_75 : decode cX12_has 75 = .ok (.ireturn, 1) := by decide +kernel
theorem dX12_has_76 : decode cX12_has 76 = .ok (.aload_n 0, 1) := by decide +kernel
theorem dX12_has_77 : decode cX12_has 77 = .ok (.invokevirtual 367, 3) := by decide +kernel
theorem dX12_has_80 : decode cX12_has 80 = .ok (.ireturn, 1) := by decide +kernel
theorem dX12_has_81 : decode cX12_has 81 = .ok (.aload_n 0, 1) := by decide +kernel
theorem dX12_has_82 : decode cX12_has 82 = .ok (.getfield 103, 3) := by decide +kernel
theorem dX12_has_85 : decode cX12_has 85 = .ok (.ireturn, 1) := by decide +kernel
theorem dX12_has_86 : decode cX12_has 86 = .ok (.aload_n 0, 1) := by decide +kernel
theorem dX12_has_87 : decode cX12_has 87 = .ok (.getfield 62, 3) := by decide +kernel
theorem dX12_has_90 : decode cX12_has 90 = .ok (.iconst 0, 1) := by decide +kernel
theorem dX12_has_91 : decode cX12_has 91 = .ok (.iaload, 1) := by decide +kernel
theorem dX12_has_92 : decode cX12_has 92 = .ok (.ifCond .ne 7, 3) := by decide +kernel
theorem dX12_has_95 : decode cX12_has 95 = .ok (.iconst 0, 1) := by decide +kernel
theorem dX12_has_96 : decode cX12_has 96 = .ok (.goto 9, 3) := by decide +kernel
theorem dX12_has_105 : decode cX12_has 105 = .ok (.ireturn, 1) := by decide +kernel
theorem dX12_has_106 : decode cX12_has 106 = .ok (.aload_n 0, 1) := by decide +kernel
theorem dX12_has_107 : decode cX12_has 107 = .ok (.getfield 207, 3) := by decide +kernel
theorem dX12_has_110 : decode cX12_has 110 = .ok (.ireturn, 1) := by decide +kernel
theorem dX12_has_111 : decode cX12_has 111 = .ok (.iconst (-1), 1) := by decide +kernel
theorem dX12_has_112 : decode cX12_has 112 = .ok (.ireturn, 1) := by decide +kernel
theorem dX12_letter_0 : decode cX12_letter 0 = .ok (.iload_n 2, 1) := by decide +kernel
theorem dX12_letter_1 : decode cX12_letter 1 = .ok (.ifCond .eq 11, 3) := by decide +kernel
theorem dX12_letter_4 : decode cX12_letter 4 = .ok (.aload_n 0, 1) := by decide +kernel
theorem dX12_letter_5 : decode cX12_letter 5 = .ok (.iload_n 1, 1) := by decide +kernel
theorem dX12_letter_6 : decode cX12_letter 6 = .ok (.invokevirtual 370, 3) := by decide +kernel
theorem dX12_letter_9 : decode cX12_letter 9 = .ok (.goto 8, 3) := by decide +kernel
theorem dX12_letter_12 : decode cX12_letter 12 = .ok (.aload_n 0, 1) := by decide +kernel
theorem dX12_letter_13 : decode cX12_letter 13 = .ok (.iload_n 1, 1) := by decide +kernel
theorem dX12_letter_14 : decode cX12_letter 14 = .ok (.invokevirtual 373, 3) := by decide +kernel
theorem dX12_letter_17 : decode cX12_letter 17 = .ok (.istore 4, 2) := by decide +kernel
theorem dX12_letter_19 : decode cX12_letter 19 = .ok (.iload 4, 2) := by decide +kernel
theorem dX12_letter_21 : decode cX12_letter 21 = .ok (.ifCond .eq 15, 3) := by decide +kernel
theorem dX12_letter_36 : decode cX12_letter 36 = .ok (.iconst (-1), 1) := by decide +kernel
theorem dX12_letter_37 : decode cX12_letter 37 = .ok (.ireturn, 1) := by decide +kernel
theorem dX12_format_0 : decode cX12_format 0 = .ok (.aload_n 0, 1) := by decide +kernel
theorem dX12_format_1 : decode cX12_format 1 = .ok (.iload_n 1, 1) := by decide +kernel
theorem dX12_format_2 : decode cX12_format 2 = .ok (.invokevirtual 370, 3) := by decide +kernel
theorem dX12_format_5 : decode cX12_format 5 = .ok (.ifCond .ne 5, 3) := by decide +kernel
theorem dX12_format_8 : decode cX12_format 8 = .ok (.iconst (-1), 1) := by decide +kernel
theorem dX12_format_9 : decode cX12_format 9 = .ok (.ireturn, 1) := by decide +kernel
theorem dX12_number__0 : decode cX12_number_ 0 = .ok (.aload_n 0, 1) := by decide +kernel
theorem dX12_number__1 : decode cX12_number_ 1 = .ok (.iload_n 1, 1) := by decide +kernel
theorem dX12_number__2 : decode cX12_number_ 2 = .ok (.invokevirtual 373, 3) := by decide +kernel
