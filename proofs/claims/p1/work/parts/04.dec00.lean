theorem dX0_init_0 : decode cX0_init 0 = .ok (.aload_n 0, 1) := by decide +kernel
theorem dX0_init_1 : decode cX0_init 1 = .ok (.invokespecial 3, 3) := by decide +kernel
theorem dX0_init_4 : decode cX0_init 4 = .ok (.aload_n 0, 1) := by decide +kernel
theorem dX0_init_5 : decode cX0_init 5 = .ok (.new 9, 3) := by decide +kernel
theorem dX0_init_8 : decode cX0_init 8 = .ok (.dup, 1) := by decide +kernel
theorem dX0_init_9 : decode cX0_init 9 = .ok (.invokespecial 11, 3) := by decide +kernel
theorem dX0_init_12 : decode cX0_init 12 = .ok (.putfield 12, 3) := by decide +kernel
theorem dX0_init_15 : decode cX0_init 15 = .ok (.aload_n 0, 1) := by decide +kernel
theorem dX0_init_16 : decode cX0_init 16 = .ok (.new 18, 3) := by decide +kernel
theorem dX0_init_19 : decode cX0_init 19 = .ok (.dup, 1) := by decide +kernel
theorem dX0_init_20 : decode cX0_init 20 = .ok (.invokespecial 20, 3) := by decide +kernel
theorem dX0_init_23 : decode cX0_init 23 = .ok (.putfield 21, 3) := by decide +kernel
theorem dX0_init_26 : decode cX0_init 26 = .ok (.aload_n 0, 1) := by decide +kernel
theorem dX0_init_27 : decode cX0_init 27 = .ok (.bipush 14, 2) := by decide +kernel
theorem dX0_init_29 : decode cX0_init 29 = .ok (.newarray .int, 2) := by decide +kernel
theorem dX0_init_31 : decode cX0_init 31 = .ok (.putfield 25, 3) := by decide +kernel
theorem dX0_init_34 : decode cX0_init 34 = .ok (.aload_n 0, 1) := by decide +kernel
theorem dX0_init_35 : decode cX0_init 35 = .ok (.iconst (-1), 1) := by decide +kernel
theorem dX0_init_36 : decode cX0_init 36 = .ok (.putfield 29, 3) := by decide +kernel
theorem dX0_init_39 : decode cX0_init 39 = .ok (.aload_n 0, 1) := by decide +kernel
theorem dX0_init_40 : decode cX0_init 40 = .ok (.iconst (-1), 1) := by decide +kernel
theorem dX0_init_41 : decode cX0_init 41 = .ok (.putfield 33, 3) := by decide +kernel
theorem dX0_init_44 : decode cX0_init 44 = .ok (.return_, 1) := by decide +kernel
theorem dX0_forget_0 : decode cX0_forget 0 = .ok (.aload_n 0, 1) := by decide +kernel
theorem dX0_forget_1 : decode cX0_forget 1 = .ok (.iconst (-1), 1) := by decide +kernel
theorem dX0_forget_2 : decode cX0_forget 2 = .ok (.putfield 29, 3) := by decide +kernel
theorem dX0_forget_5 : decode cX0_forget 5 = .ok (.aload_n 0, 1) := by decide +kernel
theorem dX0_forget_6 : decode cX0_forget 6 = .ok (.iconst (-1), 1) := by decide +kernel
theorem dX0_forget_7 : decode cX0_forget 7 = .ok (.putfield 33, 3) := by decide +kernel
theorem dX0_forget_10 : decode cX0_forget 10 = .ok (.return_, 1) := by decide +kernel
theorem dX0_holds_0 : decode cX0_holds 0 = .ok (.aload_n 0, 1) := by decide +kernel
theorem dX0_holds_1 : decode cX0_holds 1 = .ok (.invokevirtual 36, 3) := by decide +kernel
theorem dX0_holds_4 : decode cX0_holds 4 = .ok (.aload_n 3, 1) := by decide +kernel
theorem dX0_holds_5 : decode cX0_holds 5 = .ok (.getfield 39, 3) := by decide +kernel
theorem dX0_holds_8 : decode cX0_holds 8 = .ok (.getfield 45, 3) := by decide +kernel
theorem dX0_holds_11 : decode cX0_holds 11 = .ok (.istore 4, 2) := by decide +kernel
theorem dX0_holds_13 : decode cX0_holds 13 = .ok (.iload 4, 2) := by decide +kernel
theorem dX0_holds_15 : decode cX0_holds 15 = .ok (.ifCond .eq 18, 3) := by decide +kernel
theorem dX0_holds_33 : decode cX0_holds 33 = .ok (.iconst 0, 1) := by decide +kernel
theorem dX0_holds_34 : decode cX0_holds 34 = .ok (.ireturn, 1) := by decide +kernel
theorem dX1_init_0 : decode cX1_init 0 = .ok (.aload_n 0, 1) := by decide +kernel
theorem dX1_init_1 : decode cX1_init 1 = .ok (.invokespecial 3, 3) := by decide +kernel
theorem dX1_init_4 : decode cX1_init 4 = .ok (.aload_n 0, 1) := by decide +kernel
theorem dX1_init_5 : decode cX1_init 5 = .ok (.new 9, 3) := by decide +kernel
theorem dX1_init_8 : decode cX1_init 8 = .ok (.dup, 1) := by decide +kernel
theorem dX1_init_9 : decode cX1_init 9 = .ok (.invokespecial 11, 3) := by decide +kernel
theorem dX1_init_12 : decode cX1_init 12 = .ok (.putfield 12, 3) := by decide +kernel
theorem dX1_init_15 : decode cX1_init 15 = .ok (.aload_n 0, 1) := by decide +kernel
theorem dX1_init_16 : decode cX1_init 16 = .ok (.bipush 14, 2) := by decide +kernel
theorem dX1_init_18 : decode cX1_init 18 = .ok (.newarray .int, 2) := by decide +kernel
theorem dX1_init_20 : decode cX1_init 20 = .ok (.putfield 18, 3) := by decide +kernel
theorem dX1_init_23 : decode cX1_init 23 = .ok (.aload_n 0, 1) := by decide +kernel
theorem dX1_init_24 : decode cX1_init 24 = .ok (.iconst 0, 1) := by decide +kernel
theorem dX1_init_25 : decode cX1_init 25 = .ok (.newarray .int, 2) := by decide +kernel
theorem dX1_init_27 : decode cX1_init 27 = .ok (.putfield 22, 3) := by decide +kernel
theorem dX1_init_30 : decode cX1_init 30 = .ok (.aload_n 0, 1) := by decide +kernel
theorem dX1_init_31 : decode cX1_init 31 = .ok (.iconst 0, 1) := by decide +kernel
theorem dX1_init_32 : decode cX1_init 32 = .ok (.newarray .int, 2) := by decide +kernel
theorem dX1_init_34 : decode cX1_init 34 = .ok (.putfield 25, 3) := by decide +kernel
theorem dX1_init_37 : decode cX1_init 37 = .ok (.aload_n 0, 1) := by decide +kernel
theorem dX1_init_38 : decode cX1_init 38 = .ok (.iconst (-1), 1) := by decide +kernel
theorem dX1_init_39 : decode cX1_init 39 = .ok (.putfield 28, 3) := by decide +kernel
theorem dX1_init_42 : decode cX1_init 42 = .ok (.aload_n 0, 1) := by decide +kernel
theorem dX1_init_43 : decode cX1_init 43 = .ok (.iconst (-1), 1) := by decide +kernel
theorem dX1_init_44 : decode cX1_init 44 = .ok (.putfield 32, 3) := by decide +kernel
theorem dX1_init_47 : decode cX1_init 47 = .ok (.aload_n 0, 1) := by decide +kernel
theorem dX1_init_48 : decode cX1_init 48 = .ok (.iconst 0, 1) := by decide +kernel
theorem dX1_init_49 : decode cX1_init 49 = .ok (.newarray .int, 2) := by decide +kernel
theorem dX1_init_51 : decode cX1_init 51 = .ok (.putfield 35, 3) := by decide +kernel
theorem dX1_init_54 : decode cX1_init 54 = .ok (.aload_n 0, 1) := by decide +kernel
theorem dX1_init_55 : decode cX1_init 55 = .ok (.iconst 0, 1) := by decide +kernel
theorem dX1_init_56 : decode cX1_init 56 = .ok (.newarray .int, 2) := by decide +kernel
theorem dX1_init_58 : decode cX1_init 58 = .ok (.putfield 38, 3) := by decide +kernel
theorem dX1_init_61 : decode cX1_init 61 = .ok (.aload_n 0, 1) := by decide +kernel
theorem dX1_init_62 : decode cX1_init 62 = .ok (.iconst 0, 1) := by decide +kernel
theorem dX1_init_63 : decode cX1_init 63 = .ok (.newarray .int, 2) := by decide +kernel
theorem dX1_init_65 : decode cX1_init 65 = .ok (.putfield 41, 3) := by decide +kernel
theorem dX1_init_68 : decode cX1_init 68 = .ok (.return_, 1) := by decide +kernel
theorem dX1_search_0 : decode cX1_search 0 = .ok (.aload_n 1, 1) := by decide +kernel
theorem dX1_search_1 : decode cX1_search 1 = .ok (.getfield 48, 3) := by decide +kernel
theorem dX1_search_4 : decode cX1_search 4 = .ok (.getfield 54, 3) := by decide +kernel
theorem dX1_search_7 : decode cX1_search 7 = .ok (.ifCond .eq 14, 3) := by decide +kernel
theorem dX1_search_21 : decode cX1_search 21 = .ok (.iconst 0, 1) := by decide +kernel
theorem dX1_search_22 : decode cX1_search 22 = .ok (.ireturn, 1) := by decide +kernel
theorem dX2_init_0 : decode cX2_init 0 = .ok (.aload_n 0, 1) := by decide +kernel
theorem dX2_init_1 : decode cX2_init 1 = .ok (.invokespecial 3, 3) := by decide +kernel
theorem dX2_init_4 : decode cX2_init 4 = .ok (.aload_n 0, 1) := by decide +kernel
theorem dX2_init_5 : decode cX2_init 5 = .ok (.bipush 14, 2) := by decide +kernel
theorem dX2_init_7 : decode cX2_init 7 = .ok (.newarray .int, 2) := by decide +kernel
theorem dX2_init_9 : decode cX2_init 9 = .ok (.putfield 9, 3) := by decide +kernel
theorem dX2_init_12 : decode cX2_init 12 = .ok (.aload_n 0, 1) := by decide +kernel
theorem dX2_init_13 : decode cX2_init 13 = .ok (.bipush 14, 2) := by decide +kernel
theorem dX2_init_15 : decode cX2_init 15 = .ok (.newarray .int, 2) := by decide +kernel
theorem dX2_init_17 : decode cX2_init 17 = .ok (.putfield 15, 3) := by decide +kernel
theorem dX2_init_20 : decode cX2_init 20 = .ok (.aload_n 0, 1) := by decide +kernel
theorem dX2_init_21 : decode cX2_init 21 = .ok (.bipush 14, 2) := by decide +kernel
theorem dX2_init_23 : decode cX2_init 23 = .ok (.newarray .int, 2) := by decide +kernel
theorem dX2_init_25 : decode cX2_init 25 = .ok (.putfield 18, 3) := by decide +kernel
theorem dX2_init_28 : decode cX2_init 28 = .ok (.return_, 1) := by decide +kernel
theorem dX3_init_0 : decode cX3_init 0 = .ok (.aload_n 0, 1) := by decide +kernel
theorem dX3_init_1 : decode cX3_init 1 = .ok (.invokespecial 3, 3) := by decide +kernel
theorem dX3_init_4 : decode cX3_init 4 = .ok (.aload_n 0, 1) := by decide +kernel
theorem dX3_init_5 : decode cX3_init 5 = .ok (.new 9, 3) := by decide +kernel
theorem dX3_init_8 : decode cX3_init 8 = .ok (.dup, 1) := by decide +kernel
theorem dX3_init_9 : decode cX3_init 9 = .ok (.invokespecial 11, 3) := by decide +kernel
theorem dX3_init_12 : decode cX3_init 12 = .ok (.putfield 12, 3) := by decide +kernel
theorem dX3_init_15 : decode cX3_init 15 = .ok (.aload_n 0, 1) := by decide +kernel
theorem dX3_init_16 : decode cX3_init 16 = .ok (.bipush 14, 2) := by decide +kernel
theorem dX3_init_18 : decode cX3_init 18 = .ok (.newarray .int, 2) := by decide +kernel
theorem dX3_init_20 : decode cX3_init 20 = .ok (.putfield 18, 3) := by decide +kernel
theorem dX3_init_23 : decode cX3_init 23 = .ok (.aload_n 0, 1) := by decide +kernel
theorem dX3_init_24 : decode cX3_init 24 = .ok (.bipush 14, 2) := by decide +kernel
theorem dX3_init_26 : decode cX3_init 26 = .ok (.newarray .boolean, 2) := by decide +kernel
theorem dX3_init_28 : decode cX3_init 28 = .ok (.putfield 22, 3) := by decide +kernel
theorem dX3_init_31 : decode cX3_init 31 = .ok (.aload_n 0, 1) := by decide +kernel
theorem dX3_init_32 : decode cX3_init 32 = .ok (.bipush 14, 2) := by decide +kernel
theorem dX3_init_34 : decode cX3_init 34 = .ok (.newarray .int, 2) := by decide +kernel
theorem dX3_init_36 : decode cX3_init 36 = .ok (.putfield 26, 3) := by decide +kernel
theorem dX3_init_39 : decode cX3_init 39 = .ok (.aload_n 0, 1) := by decide +kernel
theorem dX3_init_40 : decode cX3_init 40 = .ok (.bipush 28, 2) := by decide +kernel
theorem dX3_init_42 : decode cX3_init 42 = .ok (.newarray .int, 2) := by decide +kernel
theorem dX3_init_44 : decode cX3_init 44 = .ok (.putfield 29, 3) := by decide +kernel
theorem dX3_init_47 : decode cX3_init 47 = .ok (.aload_n 0, 1) := by decide +kernel
theorem dX3_init_48 : decode cX3_init 48 = .ok (.bipush 28, 2) := by decide +kernel
theorem dX3_init_50 : decode cX3_init 50 = .ok (.newarray .int, 2) := by decide +kernel
theorem dX3_init_52 : decode cX3_init 52 = .ok (.putfield 32, 3) := by decide +kernel
theorem dX3_init_55 : decode cX3_init 55 = .ok (.aload_n 0, 1) := by decide +kernel
theorem dX3_init_56 : decode cX3_init 56 = .ok (.bipush 14, 2) := by decide +kernel
theorem dX3_init_58 : decode cX3_init 58 = .ok (.newarray .int, 2) := by decide +kernel
theorem dX3_init_60 : decode cX3_init 60 = .ok (.putfield 35, 3) := by decide +kernel
theorem dX3_init_63 : decode cX3_init 63 = .ok (.aload_n 0, 1) := by decide +kernel
theorem dX3_init_64 : decode cX3_init 64 = .ok (.iconst (-1), 1) := by decide +kernel
theorem dX3_init_65 : decode cX3_init 65 = .ok (.putfield 38, 3) := by decide +kernel
theorem dX3_init_68 : decode cX3_init 68 = .ok (.aload_n 0, 1) := by decide +kernel
theorem dX3_init_69 : decode cX3_init 69 = .ok (.iconst (-1), 1) := by decide +kernel
theorem dX3_init_70 : decode cX3_init 70 = .ok (.putfield 42, 3) := by decide +kernel
theorem dX3_init_73 : decode cX3_init 73 = .ok (.return_, 1) := by decide +kernel
theorem dX3_goByHalves_0 : decode cX3_goByHalves 0 = .ok (.aload_n 1, 1) := by decide +kernel
theorem dX3_goByHalves_1 : decode cX3_goByHalves 1 = .ok (.invokevirtual 49, 3) := by decide +kernel
theorem dX3_goByHalves_4 : decode cX3_goByHalves 4 = .ok (.ifCond .ne 5, 3) := by decide +kernel
theorem dX3_goByHalves_7 : decode cX3_goByHalves 7 = .ok (.iconst 0, 1) := by decide +kernel
theorem dX3_goByHalves_8 : decode cX3_goByHalves 8 = .ok (.ireturn, 1) := by decide +kernel
theorem dX4_init_0 : decode cX4_init 0 = .ok (.aload_n 0, 1) := by decide +kernel
theorem dX4_init_1 : decode cX4_init 1 = .ok (.invokespecial 3, 3) := by decide +kernel
theorem dX4_init_4 : decode cX4_init 4 = .ok (.aload_n 0, 1) := by decide +kernel
theorem dX4_init_5 : decode cX4_init 5 = .ok (.bipush 14, 2) := by decide +kernel
theorem dX4_init_7 : decode cX4_init 7 = .ok (.newarray .int, 2) := by decide +kernel
theorem dX4_init_9 : decode cX4_init 9 = .ok (.putfield 9, 3) := by decide +kernel
theorem dX4_init_12 : decode cX4_init 12 = .ok (.aload_n 0, 1) := by decide +kernel
theorem dX4_init_13 : decode cX4_init 13 = .ok (.bipush 14, 2) := by decide +kernel
theorem dX4_init_15 : decode cX4_init 15 = .ok (.newarray .int, 2) := by decide +kernel
theorem dX4_init_17 : decode cX4_init 17 = .ok (.putfield 15, 3) := by decide +kernel
theorem dX4_init_20 : decode cX4_init 20 = .ok (.aload_n 0, 1) := by decide +kernel
theorem dX4_init_21 : decode cX4_init 21 = .ok (.bipush 14, 2) := by decide +kernel
theorem dX4_init_23 : decode cX4_init 23 = .ok (.newarray .int, 2) := by decide +kernel
theorem dX4_init_25 : decode cX4_init 25 = .ok (.putfield 18, 3) := by decide +kernel
theorem dX4_init_28 : decode cX4_init 28 = .ok (.aload_n 0, 1) := by decide +kernel
theorem dX4_init_29 : decode cX4_init 29 = .ok (.bipush 14, 2) := by decide +kernel
theorem dX4_init_31 : decode cX4_init 31 = .ok (.newarray .int, 2) := by decide +kernel
theorem dX4_init_33 : decode cX4_init 33 = .ok (.putfield 21, 3) := by decide +kernel
theorem dX4_init_36 : decode cX4_init 36 = .ok (.aload_n 0, 1) := by decide +kernel
theorem dX4_init_37 : decode cX4_init 37 = .ok (.bipush 14, 2) := by decide +kernel
theorem dX4_init_39 : decode cX4_init 39 = .ok (.newarray .int, 2) := by decide +kernel
theorem dX4_init_41 : decode cX4_init 41 = .ok (.putfield 24, 3) := by decide +kernel
theorem dX4_init_44 : decode cX4_init 44 = .ok (.aload_n 0, 1) := by decide +kernel
theorem dX4_init_45 : decode cX4_init 45 = .ok (.bipush 14, 2) := by decide +kernel
theorem dX4_init_47 : decode cX4_init 47 = .ok (.newarray .int, 2) := by decide +kernel
theorem dX4_init_49 : decode cX4_init 49 = .ok (.putfield 27, 3) := by decide +kernel
theorem dX4_init_52 : decode cX4_init 52 = .ok (.aload_n 0, 1) := by decide +kernel
theorem dX4_init_53 : decode cX4_init 53 = .ok (.bipush 28, 2) := by decide +kernel
theorem dX4_init_55 : decode cX4_init 55 = .ok (.newarray .int, 2) := by decide +kernel
theorem dX4_init_57 : decode cX4_init 57 = .ok (.putfield 30, 3) := by decide +kernel
theorem dX4_init_60 : decode cX4_init 60 = .ok (.aload_n 0, 1) := by decide +kernel
theorem dX4_init_61 : decode cX4_init 61 = .ok (.bipush 28, 2) := by decide +kernel
theorem dX4_init_63 : decode cX4_init 63 = .ok (.newarray .int, 2) := by decide +kernel
theorem dX4_init_65 : decode cX4_init 65 = .ok (.putfield 33, 3) := by decide +kernel
theorem dX4_init_68 : decode cX4_init 68 = .ok (.return_, 1) := by decide +kernel
theorem dX4_countAnswers_0 : decode cX4_countAnswers 0 = .ok (.iconst 0, 1) := by decide +kernel
theorem dX4_countAnswers_1 : decode cX4_countAnswers 1 = .ok (.istore_n 2, 1) := by decide +kernel
theorem dX4_countAnswers_2 : decode cX4_countAnswers 2 = .ok (.iconst 0, 1) := by decide +kernel
theorem dX4_countAnswers_3 : decode cX4_countAnswers 3 = .ok (.istore_n 3, 1) := by decide +kernel
theorem dX4_countAnswers_4 : decode cX4_countAnswers 4 = .ok (.iload_n 3, 1) := by decide +kernel
theorem dX4_countAnswers_5 : decode cX4_countAnswers 5 = .ok (.iload_n 1, 1) := by decide +kernel
theorem dX4_countAnswers_6 : decode cX4_countAnswers 6 = .ok (.if_icmp .ge 35, 3) := by decide +kernel
theorem dX4_countAnswers_41 : decode cX4_countAnswers 41 = .ok (.iload_n 2, 1) := by decide +kernel
theorem dX4_countAnswers_42 : decode cX4_countAnswers 42 = .ok (.ireturn, 1) := by decide +kernel
theorem dX5_init_0 : decode cX5_init 0 = .ok (.aload_n 0, 1) := by decide +kernel
theorem dX5_init_1 : decode cX5_init 1 = .ok (.invokespecial 3, 3) := by decide +kernel
theorem dX5_init_4 : decode cX5_init 4 = .ok (.aload_n 0, 1) := by decide +kernel
theorem dX5_init_5 : decode cX5_init 5 = .ok (.new 9, 3) := by decide +kernel
theorem dX5_init_8 : decode cX5_init 8 = .ok (.dup, 1) := by decide +kernel
theorem dX5_init_9 : decode cX5_init 9 = .ok (.invokespecial 11, 3) := by decide +kernel
theorem dX5_init_12 : decode cX5_init 12 = .ok (.putfield 12, 3) := by decide +kernel
theorem dX5_init_15 : decode cX5_init 15 = .ok (.aload_n 0, 1) := by decide +kernel
theorem dX5_init_16 : decode cX5_init 16 = .ok (.iconst (-1), 1) := by decide +kernel
theorem dX5_init_17 : decode cX5_init 17 = .ok (.putfield 18, 3) := by decide +kernel
theorem dX5_init_20 : decode cX5_init 20 = .ok (.return_, 1) := by decide +kernel
theorem dX5_read_0 : decode cX5_read 0 = .ok (.aload_n 0, 1) := by decide +kernel
theorem dX5_read_1 : decode cX5_read 1 = .ok (.iconst 0, 1) := by decide +kernel
theorem dX5_read_2 : decode cX5_read 2 = .ok (.putfield 22, 3) := by decide +kernel
theorem dX5_read_5 : decode cX5_read 5 = .ok (.aload_n 0, 1) := by decide +kernel
theorem dX5_read_6 : decode cX5_read 6 = .ok (.iconst (-1), 1) := by decide +kernel
theorem dX5_read_7 : decode cX5_read 7 = .ok (.putfield 18, 3) := by decide +kernel
theorem dX5_read_10 : decode cX5_read 10 = .ok (.aload_n 3, 1) := by decide +kernel
theorem dX5_read_11 : decode cX5_read 11 = .ok (.invokevirtual 25, 3) := by decide +kernel
theorem dX5_read_14 : decode cX5_read 14 = .ok (.aload_n 0, 1) := by decide +kernel
theorem dX5_read_15 : decode cX5_read 15 = .ok (.getfield 12, 3) := by decide +kernel
theorem dX5_read_18 : decode cX5_read 18 = .ok (.aload_n 1, 1) := by decide +kernel
theorem dX5_read_19 : decode cX5_read 19 = .ok (.iload_n 2, 1) := by decide +kernel
theorem dX5_read_20 : decode cX5_read 20 = .ok (.invokevirtual 30, 3) := by decide +kernel
theorem dX5_read_23 : decode cX5_read 23 = .ok (.iconst 0, 1) := by decide +kernel
theorem dX5_read_24 : decode cX5_read 24 = .ok (.istore 4, 2) := by decide +kernel
theorem dX5_read_26 : decode cX5_read 26 = .ok (.iload 4, 2) := by decide +kernel
theorem dX5_read_28 : decode cX5_read 28 = .ok (.bipush 40, 2) := by decide +kernel
theorem dX5_read_30 : decode cX5_read 30 = .ok (.if_icmp .gt 31, 3) := by decide +kernel
theorem dX5_read_33 : decode cX5_read 33 = .ok (.aload_n 0, 1) := by decide +kernel
theorem dX5_read_34 : decode cX5_read 34 = .ok (.getfield 12, 3) := by decide +kernel
theorem dX5_read_37 : decode cX5_read 37 = .ok (.getfield 34, 3) := by decide +kernel
theorem dX5_read_40 : decode cX5_read 40 = .ok (.ifCond .eq 21, 3) := by decide +kernel
theorem dX5_read_61 : decode cX5_read 61 = .ok (.aload_n 3, 1) := by decide +kernel
theorem dX5_read_62 : decode cX5_read 62 = .ok (.getfield 41, 3) := by decide +kernel
theorem dX5_read_65 : decode cX5_read 65 = .ok (.ifCond .le 17, 3) := by decide +kernel
theorem dX5_read_82 : decode cX5_read 82 = .ok (.iconst 0, 1) := by decide +kernel
theorem dX5_read_83 : decode cX5_read 83 = .ok (.istore 4, 2) := by decide +kernel
theorem dX5_read_85 : decode cX5_read 85 = .ok (.iload 4, 2) := by decide +kernel
theorem dX5_read_87 : decode cX5_read 87 = .ok (.ifCond .ne 12, 3) := by decide +kernel
theorem dX5_read_90 : decode cX5_read 90 = .ok (.aload_n 0, 1) := by decide +kernel
theorem dX5_read_91 : decode cX5_read 91 = .ok (.iconst 4, 1) := by decide +kernel
theorem dX5_read_92 : decode cX5_read 92 = .ok (.iload_n 2, 1) := by decide +kernel
theorem dX5_read_93 : decode cX5_read 93 = .ok (.invokevirtual 53, 3) := by decide +kernel
theorem dX5_read_96 : decode cX5_read 96 = .ok (.ifCond .eq 7, 3) := by decide +kernel
theorem dX5_read_103 : decode cX5_read 103 = .ok (.iconst 0, 1) := by decide +kernel
theorem dX5_read_104 : decode cX5_read 104 = .ok (.ireturn, 1) := by decide +kernel
theorem dX5_stopAt_0 : decode cX5_stopAt 0 = .ok (.aload_n 0, 1) := by decide +kernel
theorem dX5_stopAt_1 : decode cX5_stopAt 1 = .ok (.iload_n 1, 1) := by decide +kernel
theorem dX5_stopAt_2 : decode cX5_stopAt 2 = .ok (.putfield 22, 3) := by decide +kernel
theorem dX5_stopAt_5 : decode cX5_stopAt 5 = .ok (.aload_n 0, 1) := by decide +kernel
theorem dX5_stopAt_6 : decode cX5_stopAt 6 = .ok (.iload_n 2, 1) := by decide +kernel
theorem dX5_stopAt_7 : decode cX5_stopAt 7 = .ok (.putfield 18, 3) := by decide +kernel
theorem dX5_stopAt_10 : decode cX5_stopAt 10 = .ok (.iconst 0, 1) := by decide +kernel
theorem dX5_stopAt_11 : decode cX5_stopAt 11 = .ok (.ireturn, 1) := by decide +kernel
theorem dX6_init_0 : decode cX6_init 0 = .ok (.aload_n 0, 1) := by decide +kernel
theorem dX6_init_1 : decode cX6_init 1 = .ok (.invokespecial 3, 3) := by decide +kernel
theorem dX6_init_4 : decode cX6_init 4 = .ok (.aload_n 0, 1) := by decide +kernel
theorem dX6_init_5 : decode cX6_init 5 = .ok (.bipush 14, 2) := by decide +kernel
theorem dX6_init_7 : decode cX6_init 7 = .ok (.newarray .long, 2) := by decide +kernel
theorem dX6_init_9 : decode cX6_init 9 = .ok (.putfield 9, 3) := by decide +kernel
theorem dX6_init_12 : decode cX6_init 12 = .ok (.aload_n 0, 1) := by decide +kernel
theorem dX6_init_13 : decode cX6_init 13 = .ok (.bipush 14, 2) := by decide +kernel
theorem dX6_init_15 : decode cX6_init 15 = .ok (.newarray .long, 2) := by decide +kernel
theorem dX6_init_17 : decode cX6_init 17 = .ok (.putfield 15, 3) := by decide +kernel
theorem dX6_init_20 : decode cX6_init 20 = .ok (.aload_n 0, 1) := by decide +kernel
theorem dX6_init_21 : decode cX6_init 21 = .ok (.bipush 14, 2) := by decide +kernel
theorem dX6_init_23 : decode cX6_init 23 = .ok (.newarray .boolean, 2) := by decide +kernel
theorem dX6_init_25 : decode cX6_init 25 = .ok (.putfield 18, 3) := by decide +kernel
theorem dX6_init_28 : decode cX6_init 28 = .ok (.return_, 1) := by decide +kernel
theorem dX7_init_0 : decode cX7_init 0 = .ok (.aload_n 0, 1) := by decide +kernel
theorem dX7_init_1 : decode cX7_init 1 = .ok (.invokespecial 3, 3) := by decide +kernel
theorem dX7_init_4 : decode cX7_init 4 = .ok (.aload_n 0, 1) := by decide +kernel
theorem dX7_init_5 : decode cX7_init 5 = .ok (.bipush 14, 2) := by decide +kernel
theorem dX7_init_7 : decode cX7_init 7 = .ok (.newarray .long, 2) := by decide +kernel
theorem dX7_init_9 : decode cX7_init 9 = .ok (.putfield 9, 3) := by decide +kernel
theorem dX7_init_12 : decode cX7_init 12 = .ok (.return_, 1) := by decide +kernel
theorem dX8_init_0 : decode cX8_init 0 = .ok (.aload_n 0, 1) := by decide +kernel
theorem dX8_init_1 : decode cX8_init 1 = .ok (.invokespecial 3, 3) := by decide +kernel
theorem dX8_init_4 : decode cX8_init 4 = .ok (.aload_n 0, 1) := by decide +kernel
theorem dX8_init_5 : decode cX8_init 5 = .ok (.bipush 14, 2) := by decide +kernel
theorem dX8_init_7 : decode cX8_init 7 = .ok (.newarray .long, 2) := by decide +kernel
theorem dX8_init_9 : decode cX8_init 9 = .ok (.putfield 9, 3) := by decide +kernel
theorem dX8_init_12 : decode cX8_init 12 = .ok (.aload_n 0, 1) := by decide +kernel
theorem dX8_init_13 : decode cX8_init 13 = .ok (.bipush 14, 2) := by decide +kernel
theorem dX8_init_15 : decode cX8_init 15 = .ok (.newarray .long, 2) := by decide +kernel
theorem dX8_init_17 : decode cX8_init 17 = .ok (.putfield 15, 3) := by decide +kernel
theorem dX8_init_20 : decode cX8_init 20 = .ok (.return_, 1) := by decide +kernel
theorem dX9_init_0 : decode cX9_init 0 = .ok (.aload_n 0, 1) := by decide +kernel
theorem dX9_init_1 : decode cX9_init 1 = .ok (.invokespecial 3, 3) := by decide +kernel
theorem dX9_init_4 : decode cX9_init 4 = .ok (.aload_n 0, 1) := by decide +kernel
theorem dX9_init_5 : decode cX9_init 5 = .ok (.iconst 4, 1) := by decide +kernel
theorem dX9_init_6 : decode cX9_init 6 = .ok (.newarray .int, 2) := by decide +kernel
theorem dX9_init_8 : decode cX9_init 8 = .ok (.putfield 9, 3) := by decide +kernel
theorem dX9_init_11 : decode cX9_init 11 = .ok (.aload_n 0, 1) := by decide +kernel
theorem dX9_init_12 : decode cX9_init 12 = .ok (.iconst 4, 1) := by decide +kernel
theorem dX9_init_13 : decode cX9_init 13 = .ok (.newarray .int, 2) := by decide +kernel
theorem dX9_init_15 : decode cX9_init 15 = .ok (.putfield 15, 3) := by decide +kernel
theorem dX9_init_18 : decode cX9_init 18 = .ok (.aload_n 0, 1) := by decide +kernel
theorem dX9_init_19 : decode cX9_init 19 = .ok (.iconst 4, 1) := by decide +kernel
theorem dX9_init_20 : decode cX9_init 20 = .ok (.newarray .int, 2) := by decide +kernel
theorem dX9_init_22 : decode cX9_init 22 = .ok (.putfield 18, 3) := by decide +kernel
theorem dX9_init_25 : decode cX9_init 25 = .ok (.aload_n 0, 1) := by decide +kernel
theorem dX9_init_26 : decode cX9_init 26 = .ok (.iconst 4, 1) := by decide +kernel
theorem dX9_init_27 : decode cX9_init 27 = .ok (.newarray .int, 2) := by decide +kernel
theorem dX9_init_29 : decode cX9_init 29 = .ok (.putfield 21, 3) := by decide +kernel
theorem dX9_init_32 : decode cX9_init 32 = .ok (.aload_n 0, 1) := by decide +kernel
theorem dX9_init_33 : decode cX9_init 33 = .ok (.new 24, 3) := by decide +kernel
theorem dX9_init_36 : decode cX9_init 36 = .ok (.dup, 1) := by decide +kernel
theorem dX9_init_37 : decode cX9_init 37 = .ok (.invokespecial 26, 3) := by decide +kernel
theorem dX9_init_40 : decode cX9_init 40 = .ok (.putfield 27, 3) := by decide +kernel
theorem dX9_init_43 : decode cX9_init 43 = .ok (.aload_n 0, 1) := by decide +kernel
theorem dX9_init_44 : decode cX9_init 44 = .ok (.new 31, 3) := by decide +kernel
theorem dX9_init_47 : decode cX9_init 47 = .ok (.dup, 1) := by decide +kernel
theorem dX9_init_48 : decode cX9_init 48 = .ok (.invokespecial 33, 3) := by decide +kernel
theorem dX9_init_51 : decode cX9_init 51 = .ok (.putfield 34, 3) := by decide +kernel
theorem dX9_init_54 : decode cX9_init 54 = .ok (.aload_n 0, 1) := by decide +kernel
theorem dX9_init_55 : decode cX9_init 55 = .ok (.new 38, 3) := by decide +kernel
theorem dX9_init_58 : decode cX9_init 58 = .ok (.dup, 1) := by decide +kernel
theorem dX9_init_59 : decode cX9_init 59 = .ok (.invokespecial 40, 3) := by decide +kernel
theorem dX9_init_62 : decode cX9_init 62 = .ok (.putfield 41, 3) := by decide +kernel
theorem dX9_init_65 : decode cX9_init 65 = .ok (.return_, 1) := by decide +kernel
theorem dX9_clear_0 : decode cX9_clear 0 = .ok (.aload_n 0, 1) := by decide +kernel
theorem dX9_clear_1 : decode cX9_clear 1 = .ok (.iconst 0, 1) := by decide +kernel
theorem dX9_clear_2 : decode cX9_clear 2 = .ok (.putfield 45, 3) := by decide +kernel
theorem dX9_clear_5 : decode cX9_clear 5 = .ok (.aload_n 0, 1) := by decide +kernel
theorem dX9_clear_6 : decode cX9_clear 6 = .ok (.iconst 1, 1) := by decide +kernel
theorem dX9_clear_7 : decode cX9_clear 7 = .ok (.putfield 49, 3) := by decide +kernel
theorem dX9_clear_10 : decode cX9_clear 10 = .ok (.aload_n 0, 1) := by decide +kernel
theorem dX9_clear_11 : decode cX9_clear 11 = .ok (.getfield 27, 3) := by decide +kernel
theorem dX9_clear_14 : decode cX9_clear 14 = .ok (.iconst 0, 1) := by decide +kernel
theorem dX9_clear_15 : decode cX9_clear 15 = .ok (.putfield 52, 3) := by decide +kernel
theorem dX9_clear_18 : decode cX9_clear 18 = .ok (.aload_n 0, 1) := by decide +kernel
theorem dX9_clear_19 : decode cX9_clear 19 = .ok (.getfield 27, 3) := by decide +kernel
theorem dX9_clear_22 : decode cX9_clear 22 = .ok (.iconst 0, 1) := by decide +kernel
theorem dX9_clear_23 : decode cX9_clear 23 = .ok (.putfield 55, 3) := by decide +kernel
theorem dX9_clear_26 : decode cX9_clear 26 = .ok (.return_, 1) := by decide +kernel
theorem dX9_hasFormat_0 : decode cX9_hasFormat 0 = .ok (.iload_n 1, 1) := by decide +kernel
theorem dX9_hasFormat_1 : decode cX9_hasFormat 1 = .ok (.ifCond .lt 15, 3) := by decide +kernel
theorem dX9_hasFormat_4 : decode cX9_hasFormat 4 = .ok (.iload_n 1, 1) := by decide +kernel
theorem dX9_hasFormat_5 : decode cX9_hasFormat 5 = .ok (.aload_n 0, 1) := by decide +kernel
theorem dX9_hasFormat_6 : decode cX9_hasFormat 6 = .ok (.getfield 45, 3) := by decide +kernel
theorem dX9_hasFormat_9 : decode cX9_hasFormat 9 = .ok (.if_icmp .ge 7, 3) := by decide +kernel
theorem dX9_hasFormat_16 : decode cX9_hasFormat 16 = .ok (.iconst 0, 1) := by decide +kernel
theorem dX9_hasFormat_17 : decode cX9_hasFormat 17 = .ok (.ireturn, 1) := by decide +kernel
theorem dX9_hasNumber_0 : decode cX9_hasNumber 0 = .ok (.iload_n 1, 1) := by decide +kernel
theorem dX9_hasNumber_1 : decode cX9_hasNumber 1 = .ok (.ifCond .lt 18, 3) := by decide +kernel
theorem dX9_hasNumber_4 : decode cX9_hasNumber 4 = .ok (.iload_n 1, 1) := by decide +kernel
theorem dX9_hasNumber_5 : decode cX9_hasNumber 5 = .ok (.aload_n 0, 1) := by decide +kernel
theorem dX9_hasNumber_6 : decode cX9_hasNumber 6 = .ok (.getfield 27, 3) := by decide +kernel
theorem dX9_hasNumber_9 : decode cX9_hasNumber 9 = .ok (.getfield 52, 3) := by decide +kernel
theorem dX9_hasNumber_12 : decode cX9_hasNumber 12 = .ok (.if_icmp .ge 7, 3) := by decide +kernel
theorem dX9_hasNumber_19 : decode cX9_hasNumber 19 = .ok (.iconst 0, 1) := by decide +kernel
theorem dX9_hasNumber_20 : decode cX9_hasNumber 20 = .ok (.ireturn, 1) := by decide +kernel
theorem dX9_hasChoice_0 : decode cX9_hasChoice 0 = .ok (.aload_n 0, 1) := by decide +kernel
theorem dX9_hasChoice_1 : decode cX9_hasChoice 1 = .ok (.getfield 27, 3) := by decide +kernel
theorem dX9_hasChoice_4 : decode cX9_hasChoice 4 = .ok (.getfield 52, 3) := by decide +kernel
theorem dX9_hasChoice_7 : decode cX9_hasChoice 7 = .ok (.ifCond .le 17, 3) := by decide +kernel
theorem dX9_hasChoice_24 : decode cX9_hasChoice 24 = .ok (.iconst 0, 1) := by decide +kernel
theorem dX9_hasChoice_25 : decode cX9_hasChoice 25 = .ok (.ireturn, 1) := by decide +kernel
theorem dX9_isAnswer_0 : decode cX9_isAnswer 0 = .ok (.aload_n 0, 1) := by decide +kernel
theorem dX9_isAnswer_1 : decode cX9_isAnswer 1 = .ok (.iload_n 1, 1) := by decide +kernel
theorem dX9_isAnswer_2 : decode cX9_isAnswer 2 = .ok (.invokevirtual 70, 3) := by decide +kernel
theorem dX9_isAnswer_5 : decode cX9_isAnswer 5 = .ok (.ifCond .eq 20, 3) := by decide +kernel
theorem dX9_isAnswer_25 : decode cX9_isAnswer 25 = .ok (.iconst 0, 1) := by decide +kernel
theorem dX9_isAnswer_26 : decode cX9_isAnswer 26 = .ok (.ireturn, 1) := by decide +kernel
theorem dX9_isInput_0 : decode cX9_isInput 0 = .ok (.aload_n 0, 1) := by decide +kernel
theorem dX9_isInput_1 : decode cX9_isInput 1 = .ok (.iload_n 1, 1) := by decide +kernel
theorem dX9_isInput_2 : decode cX9_isInput 2 = .ok (.invokevirtual 70, 3) := by decide +kernel
theorem dX9_isInput_5 : decode cX9_isInput 5 = .ok (.ifCond .eq 19, 3) := by decide +kernel
theorem dX9_isInput_24 : decode cX9_isInput 24 = .ok (.iconst 0, 1) := by decide +kernel
theorem dX9_isInput_25 : decode cX9_isInput 25 = .ok (.ireturn, 1) := by decide +kernel
theorem dX10_init_0 : decode cX10_init 0 = .ok (.aload_n 0, 1) := by decide +kernel
theorem dX10_init_1 : decode cX10_init 1 = .ok (.invokespecial 3, 3) := by decide +kernel
theorem dX10_init_4 : decode cX10_init 4 = .ok (.aload_n 0, 1) := by decide +kernel
theorem dX10_init_5 : decode cX10_init 5 = .ok (.bipush 13, 2) := by decide +kernel
theorem dX10_init_7 : decode cX10_init 7 = .ok (.newarray .int, 2) := by decide +kernel
theorem dX10_init_9 : decode cX10_init 9 = .ok (.putfield 11, 3) := by decide +kernel
theorem dX10_init_12 : decode cX10_init 12 = .ok (.aload_n 0, 1) := by decide +kernel
theorem dX10_init_13 : decode cX10_init 13 = .ok (.iconst 0, 1) := by decide +kernel
theorem dX10_init_14 : decode cX10_init 14 = .ok (.newarray .byte, 2) := by decide +kernel
theorem dX10_init_16 : decode cX10_init 16 = .ok (.putfield 15, 3) := by decide +kernel
theorem dX10_init_19 : decode cX10_init 19 = .ok (.iconst 0, 1) := by decide +kernel
theorem dX10_init_20 : decode cX10_init 20 = .ok (.istore_n 1, 1) := by decide +kernel
theorem dX10_init_21 : decode cX10_init 21 = .ok (.iload_n 1, 1) := by decide +kernel
theorem dX10_init_22 : decode cX10_init 22 = .ok (.bipush 13, 2) := by decide +kernel
theorem dX10_init_24 : decode cX10_init 24 = .ok (.if_icmp .ge 85, 3) := by decide +kernel
theorem dX10_init_27 : decode cX10_init 27 = .ok (.iconst 0, 1) := by decide +kernel
theorem dX10_init_28 : decode cX10_init 28 = .ok (.istore_n 2, 1) := by decide +kernel
theorem dX10_init_29 : decode cX10_init 29 = .ok (.iload_n 2, 1) := by decide +kernel
theorem dX10_init_30 : decode cX10_init 30 = .ok (.bipush 6, 2) := by decide +kernel
theorem dX10_init_32 : decode cX10_init 32 = .ok (.if_icmp .ge 71, 3) := by decide +kernel
theorem dX10_init_35 : decode cX10_init 35 = .ok (.iload_n 1, 1) := by decide +kernel
theorem dX10_init_36 : decode cX10_init 36 = .ok (.bipush 7, 2) := by decide +kernel
theorem dX10_init_38 : decode cX10_init 38 = .ok (.imul, 1) := by decide +kernel
theorem dX10_init_39 : decode cX10_init 39 = .ok (.iload_n 2, 1) := by decide +kernel
theorem dX10_init_40 : decode cX10_init 40 = .ok (.iadd, 1) := by decide +kernel
theorem dX10_init_41 : decode cX10_init 41 = .ok (.istore_n 3, 1) := by decide +kernel
theorem dX10_init_42 : decode cX10_init 42 = .ok (.iload_n 3, 1) := by decide +kernel
theorem dX10_init_43 : decode cX10_init 43 = .ok (.ldc 19, 2) := by decide +kernel
theorem dX10_init_45 : decode cX10_init 45 = .ok (.invokevirtual 21, 3) := by decide +kernel
theorem dX10_init_48 : decode cX10_init 48 = .ok (.if_icmp .ge 12, 3) := by decide +kernel
theorem dX10_init_51 : decode cX10_init 51 = .ok (.ldc 19, 2) := by decide +kernel
theorem dX10_init_53 : decode cX10_init 53 = .ok (.iload_n 3, 1) := by decide +kernel
theorem dX10_init_54 : decode cX10_init 54 = .ok (.invokevirtual 27, 3) := by decide +kernel
theorem dX10_init_57 : decode cX10_init 57 = .ok (.goto 5, 3) := by decide +kernel
theorem dX10_init_62 : decode cX10_init 62 = .ok (.istore 4, 2) := by decide +kernel
theorem dX10_init_64 : decode cX10_init 64 = .ok (.aload_n 0, 1) := by decide +kernel
theorem dX10_init_65 : decode cX10_init 65 = .ok (.getfield 11, 3) := by decide +kernel
theorem dX10_init_68 : decode cX10_init 68 = .ok (.iload_n 1, 1) := by decide +kernel
theorem dX10_init_69 : decode cX10_init 69 = .ok (.aload_n 0, 1) := by decide +kernel
theorem dX10_init_70 : decode cX10_init 70 = .ok (.getfield 11, 3) := by decide +kernel
theorem dX10_init_73 : decode cX10_init 73 = .ok (.iload_n 1, 1) := by decide +kernel
theorem dX10_init_74 : decode cX10_init 74 = .ok (.iaload, 1) := by decide +kernel
theorem dX10_init_75 : decode cX10_init 75 = .ok (.iconst 5, 1) := by decide +kernel
theorem dX10_init_76 : decode cX10_init 76 = .ok (.ishl, 1) := by decide +kernel
theorem dX10_init_77 : decode cX10_init 77 = .ok (.iload 4, 2) := by decide +kernel
theorem dX10_init_79 : decode cX10_init 79 = .ok (.bipush 32, 2) := by decide +kernel
theorem dX10_init_81 : decode cX10_init 81 = .ok (.if_icmp .ne 7, 3) := by decide +kernel
theorem dX10_init_84 : decode cX10_init 84 = .ok (.iconst 0, 1) := by decide +kernel
theorem dX10_init_85 : decode cX10_init 85 = .ok (.goto 10, 3) := by decide +kernel
theorem dX10_init_88 : decode cX10_init 88 = .ok (.iload 4, 2) := by decide +kernel
theorem dX10_init_90 : decode cX10_init 90 = .ok (.bipush 97, 2) := by decide +kernel
theorem dX10_init_92 : decode cX10_init 92 = .ok (.isub, 1) := by decide +kernel
theorem dX10_init_93 : decode cX10_init 93 = .ok (.iconst 1, 1) := by decide +kernel
theorem dX10_init_94 : decode cX10_init 94 = .ok (.iadd, 1) := by decide +kernel
theorem dX10_init_95 : decode cX10_init 95 = .ok (.ior, 1) := by decide +kernel
theorem dX10_init_96 : decode cX10_init 96 = .ok (.iastore, 1) := by decide +kernel
theorem dX10_init_97 : decode cX10_init 97 = .ok (.iinc 2 1, 3) := by decide +kernel
theorem dX10_init_100 : decode cX10_init 100 = .ok (.goto (-71), 3) := by decide +kernel
theorem dX10_init_103 : decode cX10_init 103 = .ok (.iinc 1 1, 3) := by decide +kernel
theorem dX10_init_106 : decode cX10_init 106 = .ok (.goto (-85), 3) := by decide +kernel
theorem dX10_init_109 : decode cX10_init 109 = .ok (.return_, 1) := by decide +kernel
theorem dX10_open_0 : decode cX10_open 0 = .ok (.aload_n 0, 1) := by decide +kernel
theorem dX10_open_1 : decode cX10_open 1 = .ok (.aload_n 1, 1) := by decide +kernel
theorem dX10_open_2 : decode cX10_open 2 = .ok (.putfield 15, 3) := by decide +kernel
theorem dX10_open_5 : decode cX10_open 5 = .ok (.aload_n 0, 1) := by decide +kernel
theorem dX10_open_6 : decode cX10_open 6 = .ok (.iconst 0, 1) := by decide +kernel
theorem dX10_open_7 : decode cX10_open 7 = .ok (.iload_n 2, 1) := by decide +kernel
theorem dX10_open_8 : decode cX10_open 8 = .ok (.aload_n 1, 1) := by decide +kernel
theorem dX10_open_9 : decode cX10_open 9 = .ok (.arraylength, 1) := by decide +kernel
theorem dX10_open_10 : decode cX10_open 10 = .ok (.invokestatic 31, 3) := by decide +kernel
theorem dX10_open_13 : decode cX10_open 13 = .ok (.invokestatic 37, 3) := by decide +kernel
theorem dX10_open_16 : decode cX10_open 16 = .ok (.putfield 40, 3) := by decide +kernel
theorem dX10_open_19 : decode cX10_open 19 = .ok (.aload_n 0, 1) := by decide +kernel
theorem dX10_open_20 : decode cX10_open 20 = .ok (.iconst 0, 1) := by decide +kernel
theorem dX10_open_21 : decode cX10_open 21 = .ok (.putfield 43, 3) := by decide +kernel
theorem dX10_open_24 : decode cX10_open 24 = .ok (.aload_n 0, 1) := by decide +kernel
theorem dX10_open_25 : decode cX10_open 25 = .ok (.iconst 0, 1) := by decide +kernel
theorem dX10_open_26 : decode cX10_open 26 = .ok (.putfield 46, 3) := by decide +kernel
theorem dX10_open_29 : decode cX10_open 29 = .ok (.aload_n 0, 1) := by decide +kernel
theorem dX10_open_30 : decode cX10_open 30 = .ok (.invokevirtual 49, 3) := by decide +kernel
theorem dX10_open_33 : decode cX10_open 33 = .ok (.return_, 1) := by decide +kernel
theorem dX10_advance_0 : decode cX10_advance 0 = .ok (.aload_n 0, 1) := by decide +kernel
theorem dX10_advance_1 : decode cX10_advance 1 = .ok (.getfield 43, 3) := by decide +kernel
theorem dX10_advance_4 : decode cX10_advance 4 = .ok (.istore_n 1, 1) := by decide +kernel
theorem dX10_advance_5 : decode cX10_advance 5 = .ok (.aload_n 0, 1) := by decide +kernel
theorem dX10_advance_6 : decode cX10_advance 6 = .ok (.getfield 46, 3) := by decide +kernel
theorem dX10_advance_9 : decode cX10_advance 9 = .ok (.iconst 1, 1) := by decide +kernel
theorem dX10_advance_10 : decode cX10_advance 10 = .ok (.if_icmp .eq 11, 3) := by decide +kernel
theorem dX10_advance_13 : decode cX10_advance 13 = .ok (.aload_n 0, 1) := by decide +kernel
theorem dX10_advance_14 : decode cX10_advance 14 = .ok (.getfield 46, 3) := by decide +kernel
theorem dX10_advance_17 : decode cX10_advance 17 = .ok (.iconst 2, 1) := by decide +kernel
theorem dX10_advance_18 : decode cX10_advance 18 = .ok (.if_icmp .ne 7, 3) := by decide +kernel
theorem dX10_advance_25 : decode cX10_advance 25 = .ok (.iconst 0, 1) := by decide +kernel
theorem dX10_advance_26 : decode cX10_advance 26 = .ok (.istore_n 2, 1) := by decide +kernel
theorem dX10_advance_27 : decode cX10_advance 27 = .ok (.aload_n 0, 1) := by decide +kernel
theorem dX10_advance_28 : decode cX10_advance 28 = .ok (.getfield 43, 3) := by decide +kernel
theorem dX10_advance_31 : decode cX10_advance 31 = .ok (.aload_n 0, 1) := by decide +kernel
theorem dX10_advance_32 : decode cX10_advance 32 = .ok (.getfield 40, 3) := by decide +kernel
theorem dX10_advance_35 : decode cX10_advance 35 = .ok (.if_icmp .ge 32, 3) := by decide +kernel
theorem dX10_advance_67 : decode cX10_advance 67 = .ok (.aload_n 0, 1) := by decide +kernel
theorem dX10_advance_68 : decode cX10_advance 68 = .ok (.aload_n 0, 1) := by decide +kernel
theorem dX10_advance_69 : decode cX10_advance 69 = .ok (.getfield 43, 3) := by decide +kernel
theorem dX10_advance_72 : decode cX10_advance 72 = .ok (.putfield 56, 3) := by decide +kernel
theorem dX10_advance_75 : decode cX10_advance 75 = .ok (.aload_n 0, 1) := by decide +kernel
theorem dX10_advance_76 : decode cX10_advance 76 = .ok (.aload_n 0, 1) := by decide +kernel
theorem dX10_advance_77 : decode cX10_advance 77 = .ok (.getfield 43, 3) := by decide +kernel
theorem dX10_advance_80 : decode cX10_advance 80 = .ok (.aload_n 0, 1) := by decide +kernel
theorem dX10_advance_81 : decode cX10_advance 81 = .ok (.getfield 40, 3) := by decide +kernel
theorem dX10_advance_84 : decode cX10_advance 84 = .ok (.if_icmp .ge 18, 3) := by decide +kernel
theorem dX10_advance_102 : decode cX10_advance 102 = .ok (.iconst 0, 1) := by decide +kernel
theorem dX10_advance_103 : decode cX10_advance 103 = .ok (.putfield 46, 3) := by decide +kernel
theorem dX10_advance_106 : decode cX10_advance 106 = .ok (.aload_n 0, 1) := by decide +kernel
theorem dX10_advance_107 : decode cX10_advance 107 = .ok (.iconst 0, 1) := by decide +kernel
theorem dX10_advance_108 : decode cX10_advance 108 = .ok (.putfield 59, 3) := by decide +kernel
theorem dX10_advance_111 : decode cX10_advance 111 = .ok (.iconst 0, 1) := by decide +kernel
theorem dX10_advance_112 : decode cX10_advance 112 = .ok (.istore_n 3, 1) := by decide +kernel
theorem dX10_advance_113 : decode cX10_advance 113 = .ok (.aload_n 0, 1) := by decide +kernel
theorem dX10_advance_114 : decode cX10_advance 114 = .ok (.getfield 43, 3) := by decide +kernel
theorem dX10_advance_117 : decode cX10_advance 117 = .ok (.aload_n 0, 1) := by decide +kernel
theorem dX10_advance_118 : decode cX10_advance 118 = .ok (.getfield 40, 3) := by decide +kernel
theorem dX10_advance_121 : decode cX10_advance 121 = .ok (.if_icmp .ge 64, 3) := by decide +kernel
theorem dX10_advance_185 : decode cX10_advance 185 = .ok (.iload_n 2, 1) := by decide +kernel
theorem dX10_advance_186 : decode cX10_advance 186 = .ok (.ifCond .eq 31, 3) := by decide +kernel
theorem dX10_advance_217 : decode cX10_advance 217 = .ok (.iconst 0, 1) := by decide +kernel
theorem dX10_advance_218 : decode cX10_advance 218 = .ok (.istore 4, 2) := by decide +kernel
theorem dX10_advance_220 : decode cX10_advance 220 = .ok (.iload 4, 2) := by decide +kernel
theorem dX10_advance_222 : decode cX10_advance 222 = .ok (.ifCond .ne 31, 3) := by decide +kernel
theorem dX10_advance_225 : decode cX10_advance 225 = .ok (.aload_n 0, 1) := by decide +kernel
theorem dX10_advance_226 : decode cX10_advance 226 = .ok (.getfield 46, 3) := by decide +kernel
theorem dX10_advance_229 : decode cX10_advance 229 = .ok (.iconst 1, 1) := by decide +kernel
theorem dX10_advance_230 : decode cX10_advance 230 = .ok (.if_icmp .ne 9, 3) := by decide +kernel
theorem dX10_advance_239 : decode cX10_advance 239 = .ok (.aload_n 0, 1) := by decide +kernel
theorem dX10_advance_240 : decode cX10_advance 240 = .ok (.getfield 46, 3) := by decide +kernel
theorem dX10_advance_243 : decode cX10_advance 243 = .ok (.iconst 2, 1) := by decide +kernel
theorem dX10_advance_244 : decode cX10_advance 244 = .ok (.if_icmp .ne 14, 3) := by decide +kernel
theorem dX10_advance_258 : decode cX10_advance 258 = .ok (.aload_n 0, 1) := by decide +kernel
theorem dX10_advance_259 : decode cX10_advance 259 = .ok (.aload_n 0, 1) := by decide +kernel
theorem dX10_advance_260 : decode cX10_advance 260 = .ok (.getfield 46, 3) := by decide +kernel
theorem dX10_advance_263 : decode cX10_advance 263 = .ok (.iconst 1, 1) := by decide +kernel
theorem dX10_advance_264 : decode cX10_advance 264 = .ok (.if_icmp .ne 14, 3) := by decide +kernel
theorem dX10_advance_278 : decode cX10_advance 278 = .ok (.iconst (-1), 1) := by decide +kernel
theorem dX10_advance_279 : decode cX10_advance 279 = .ok (.putfield 70, 3) := by decide +kernel
theorem dX10_advance_282 : decode cX10_advance 282 = .ok (.return_, 1) := by decide +kernel
theorem dX11_init_0 : decode cX11_init 0 = .ok (.aload_n 0, 1) := by decide +kernel
theorem dX11_init_1 : decode cX11_init 1 = .ok (.invokespecial 1, 3) := by decide +kernel
theorem dX11_init_4 : decode cX11_init 4 = .ok (.aload_n 0, 1) := by decide +kernel
theorem dX11_init_5 : decode cX11_init 5 = .ok (.sipush 1200, 3) := by decide +kernel
theorem dX11_init_8 : decode cX11_init 8 = .ok (.newarray .byte, 2) := by decide +kernel
theorem dX11_init_10 : decode cX11_init 10 = .ok (.putfield 9, 3) := by decide +kernel
theorem dX11_init_13 : decode cX11_init 13 = .ok (.aload_n 0, 1) := by decide +kernel
theorem dX11_init_14 : decode cX11_init 14 = .ok (.iconst 5, 1) := by decide +kernel
theorem dX11_init_15 : decode cX11_init 15 = .ok (.newarray .int, 2) := by decide +kernel
theorem dX11_init_17 : decode cX11_init 17 = .ok (.putfield 13, 3) := by decide +kernel
theorem dX11_init_20 : decode cX11_init 20 = .ok (.aload_n 0, 1) := by decide +kernel
theorem dX11_init_21 : decode cX11_init 21 = .ok (.new 17, 3) := by decide +kernel
theorem dX11_init_24 : decode cX11_init 24 = .ok (.dup, 1) := by decide +kernel
theorem dX11_init_25 : decode cX11_init 25 = .ok (.invokespecial 19, 3) := by decide +kernel
theorem dX11_init_28 : decode cX11_init 28 = .ok (.putfield 20, 3) := by decide +kernel
theorem dX11_init_31 : decode cX11_init 31 = .ok (.aload_n 0, 1) := by decide +kernel
theorem dX11_init_32 : decode cX11_init 32 = .ok (.new 24, 3) := by decide +kernel
theorem dX11_init_35 : decode cX11_init 35 = .ok (.dup, 1) := by decide +kernel
theorem dX11_init_36 : decode cX11_init 36 = .ok (.invokespecial 26, 3) := by decide +kernel
theorem dX11_init_39 : decode cX11_init 39 = .ok (.putfield 27, 3) := by decide +kernel
theorem dX11_init_42 : decode cX11_init 42 = .ok (.aload_n 0, 1) := by decide +kernel
theorem dX11_init_43 : decode cX11_init 43 = .ok (.new 24, 3) := by decide +kernel
theorem dX11_init_46 : decode cX11_init 46 = .ok (.dup, 1) := by decide +kernel
theorem dX11_init_47 : decode cX11_init 47 = .ok (.invokespecial 26, 3) := by decide +kernel
theorem dX11_init_50 : decode cX11_init 50 = .ok (.putfield 31, 3) := by decide +kernel
theorem dX11_init_53 : decode cX11_init 53 = .ok (.aload_n 0, 1) := by decide +kernel
theorem dX11_init_54 : decode cX11_init 54 = .ok (.bipush 14, 2) := by decide +kernel
theorem dX11_init_56 : decode cX11_init 56 = .ok (.newarray .int, 2) := by decide +kernel
theorem dX11_init_58 : decode cX11_init 58 = .ok (.putfield 34, 3) := by decide +kernel
theorem dX11_init_61 : decode cX11_init 61 = .ok (.aload_n 0, 1) := by decide +kernel
theorem dX11_init_62 : decode cX11_init 62 = .ok (.bipush 14, 2) := by decide +kernel
theorem dX11_init_64 : decode cX11_init 64 = .ok (.newarray .int, 2) := by decide +kernel
theorem dX11_init_66 : decode cX11_init 66 = .ok (.putfield 37, 3) := by decide +kernel
theorem dX11_init_69 : decode cX11_init 69 = .ok (.aload_n 0, 1) := by decide +kernel
theorem dX11_init_70 : decode cX11_init 70 = .ok (.new 40, 3) := by decide +kernel
theorem dX11_init_73 : decode cX11_init 73 = .ok (.dup, 1) := by decide +kernel
theorem dX11_init_74 : decode cX11_init 74 = .ok (.invokespecial 42, 3) := by decide +kernel
theorem dX11_init_77 : decode cX11_init 77 = .ok (.putfield 43, 3) := by decide +kernel
theorem dX11_init_80 : decode cX11_init 80 = .ok (.aload_n 0, 1) := by decide +kernel
theorem dX11_init_81 : decode cX11_init 81 = .ok (.new 40, 3) := by decide +kernel
theorem dX11_init_84 : decode cX11_init 84 = .ok (.dup, 1) := by decide +kernel
theorem dX11_init_85 : decode cX11_init 85 = .ok (.invokespecial 42, 3) := by decide +kernel
theorem dX11_init_88 : decode cX11_init 88 = .ok (.putfield 47, 3) := by decide +kernel
theorem dX11_init_91 : decode cX11_init 91 = .ok (.aload_n 0, 1) := by decide +kernel
theorem dX11_init_92 : decode cX11_init 92 = .ok (.new 50, 3) := by decide +kernel
theorem dX11_init_95 : decode cX11_init 95 = .ok (.dup, 1) := by decide +kernel
theorem dX11_init_96 : decode cX11_init 96 = .ok (.invokespecial 52, 3) := by decide +kernel
theorem dX11_init_99 : decode cX11_init 99 = .ok (.putfield 53, 3) := by decide +kernel
theorem dX11_init_102 : decode cX11_init 102 = .ok (.aload_n 0, 1) := by decide +kernel
theorem dX11_init_103 : decode cX11_init 103 = .ok (.new 57, 3) := by decide +kernel
theorem dX11_init_106 : decode cX11_init 106 = .ok (.dup, 1) := by decide +kernel
theorem dX11_init_107 : decode cX11_init 107 = .ok (.invokespecial 59, 3) := by decide +kernel
theorem dX11_init_110 : decode cX11_init 110 = .ok (.putfield 60, 3) := by decide +kernel
theorem dX11_init_113 : decode cX11_init 113 = .ok (.aload_n 0, 1) := by decide +kernel
theorem dX11_init_114 : decode cX11_init 114 = .ok (.new 64, 3) := by decide +kernel
theorem dX11_init_117 : decode cX11_init 117 = .ok (.dup, 1) := by decide +kernel
theorem dX11_init_118 : decode cX11_init 118 = .ok (.invokespecial 66, 3) := by decide +kernel
theorem dX11_init_121 : decode cX11_init 121 = .ok (.putfield 67, 3) := by decide +kernel
theorem dX11_init_124 : decode cX11_init 124 = .ok (.aload_n 0, 1) := by decide +kernel
theorem dX11_init_125 : decode cX11_init 125 = .ok (.new 71, 3) := by decide +kernel
theorem dX11_init_128 : decode cX11_init 128 = .ok (.dup, 1) := by decide +kernel
theorem dX11_init_129 : decode cX11_init 129 = .ok (.invokespecial 73, 3) := by decide +kernel
theorem dX11_init_132 : decode cX11_init 132 = .ok (.putfield 74, 3) := by decide +kernel
theorem dX11_init_135 : decode cX11_init 135 = .ok (.aload_n 0, 1) := by decide +kernel
theorem dX11_init_136 : decode cX11_init 136 = .ok (.new 78, 3) := by decide +kernel
theorem dX11_init_139 : decode cX11_init 139 = .ok (.dup, 1) := by decide +kernel
theorem dX11_init_140 : decode cX11_init 140 = .ok (.invokespecial 80, 3) := by decide +kernel
theorem dX11_init_143 : decode cX11_init 143 = .ok (.putfield 81, 3) := by decide +kernel
theorem dX11_init_146 : decode cX11_init 146 = .ok (.aload_n 0, 1) := by decide +kernel
theorem dX11_init_147 : decode cX11_init 147 = .ok (.iconst 1, 1) := by decide +kernel
theorem dX11_init_148 : decode cX11_init 148 = .ok (.putfield 85, 3) := by decide +kernel
theorem dX11_init_151 : decode cX11_init 151 = .ok (.return_, 1) := by decide +kernel
theorem dX11_feed_0 : decode cX11_feed 0 = .ok (.aload_n 0, 1) := by decide +kernel
theorem dX11_feed_1 : decode cX11_feed 1 = .ok (.getfield 89, 3) := by decide +kernel
theorem dX11_feed_4 : decode cX11_feed 4 = .ok (.sipush 1180, 3) := by decide +kernel
theorem dX11_feed_7 : decode cX11_feed 7 = .ok (.if_icmp .le 9, 3) := by decide +kernel
theorem dX11_feed_16 : decode cX11_feed 16 = .ok (.aload_n 0, 1) := by decide +kernel
theorem dX11_feed_17 : decode cX11_feed 17 = .ok (.iload_n 1, 1) := by decide +kernel
theorem dX11_feed_18 : decode cX11_feed 18 = .ok (.invokevirtual 96, 3) := by decide +kernel
theorem dX11_feed_21 : decode cX11_feed 21 = .ok (.aload_n 0, 1) := by decide +kernel
theorem dX11_feed_22 : decode cX11_feed 22 = .ok (.iload_n 2, 1) := by decide +kernel
theorem dX11_feed_23 : decode cX11_feed 23 = .ok (.invokevirtual 96, 3) := by decide +kernel
theorem dX11_feed_26 : decode cX11_feed 26 = .ok (.aload_n 0, 1) := by decide +kernel
theorem dX11_feed_27 : decode cX11_feed 27 = .ok (.iload_n 3, 1) := by decide +kernel
theorem dX11_feed_28 : decode cX11_feed 28 = .ok (.invokevirtual 96, 3) := by decide +kernel
theorem dX11_feed_31 : decode cX11_feed 31 = .ok (.aload_n 0, 1) := by decide +kernel
theorem dX11_feed_32 : decode cX11_feed 32 = .ok (.iload 4, 2) := by decide +kernel
theorem dX11_feed_34 : decode cX11_feed 34 = .ok (.invokevirtual 96, 3) := by decide +kernel
theorem dX11_feed_37 : decode cX11_feed 37 = .ok (.aload_n 0, 1) := by decide +kernel
theorem dX11_feed_38 : decode cX11_feed 38 = .ok (.iload 5, 2) := by decide +kernel
theorem dX11_feed_40 : decode cX11_feed 40 = .ok (.invokevirtual 96, 3) := by decide +kernel
theorem dX11_feed_43 : decode cX11_feed 43 = .ok (.aload_n 0, 1) := by decide +kernel
theorem dX11_feed_44 : decode cX11_feed 44 = .ok (.getfield 89, 3) := by decide +kernel
theorem dX11_feed_47 : decode cX11_feed 47 = .ok (.ireturn, 1) := by decide +kernel
theorem dX11_end_0 : decode cX11_end 0 = .ok (.iload_n 1, 1) := by decide +kernel
theorem dX11_end_1 : decode cX11_end 1 = .ok (.ifCond .lt 11, 3) := by decide +kernel
theorem dX11_end_4 : decode cX11_end 4 = .ok (.iload_n 1, 1) := by decide +kernel
theorem dX11_end_5 : decode cX11_end 5 = .ok (.aload_n 0, 1) := by decide +kernel
theorem dX11_end_6 : decode cX11_end 6 = .ok (.getfield 89, 3) := by decide +kernel
theorem dX11_end_9 : decode cX11_end 9 = .ok (.if_icmp .le 11, 3) := by decide +kernel
theorem dX11_end_12 : decode cX11_end 12 = .ok (.aload_n 0, 1) := by decide +kernel
theorem dX11_end_13 : decode cX11_end 13 = .ok (.iconst 0, 1) := by decide +kernel
theorem dX11_end_14 : decode cX11_end 14 = .ok (.invokevirtual 92, 3) := by decide +kernel
theorem dX11_end_17 : decode cX11_end 17 = .ok (.pop, 1) := by decide +kernel
theorem dX11_end_18 : decode cX11_end 18 = .ok (.iconst 0, 1) := by decide +kernel
theorem dX11_end_19 : decode cX11_end 19 = .ok (.ireturn, 1) := by decide +kernel
theorem dX11_end_20 : decode cX11_end 20 = .ok (.aload_n 0, 1) := by decide +kernel
theorem dX11_end_21 : decode cX11_end 21 = .ok (.iload_n 1, 1) := by decide +kernel
theorem dX11_end_22 : decode cX11_end 22 = .ok (.putfield 89, 3) := by decide +kernel
theorem dX11_end_25 : decode cX11_end 25 = .ok (.iconst 1, 1) := by decide +kernel
theorem dX11_end_26 : decode cX11_end 26 = .ok (.ireturn, 1) := by decide +kernel
theorem dX11_task_0 : decode cX11_task 0 = .ok (.aload_n 0, 1) := by decide +kernel
theorem dX11_task_1 : decode cX11_task 1 = .ok (.getfield 89, 3) := by decide +kernel
theorem dX11_task_4 : decode cX11_task 4 = .ok (.istore_n 1, 1) := by decide +kernel
theorem dX11_task_5 : decode cX11_task 5 = .ok (.aload_n 0, 1) := by decide +kernel
theorem dX11_task_6 : decode cX11_task 6 = .ok (.iconst 0, 1) := by decide +kernel
theorem dX11_task_7 : decode cX11_task 7 = .ok (.putfield 89, 3) := by decide +kernel
theorem dX11_task_10 : decode cX11_task 10 = .ok (.aload_n 0, 1) := by decide +kernel
theorem dX11_task_11 : decode cX11_task 11 = .ok (.getfield 20, 3) := by decide +kernel
theorem dX11_task_14 : decode cX11_task 14 = .ok (.aload_n 0, 1) := by decide +kernel
theorem dX11_task_15 : decode cX11_task 15 = .ok (.getfield 9, 3) := by decide +kernel
theorem dX11_task_18 : decode cX11_task 18 = .ok (.iload_n 1, 1) := by decide +kernel
theorem dX11_task_19 : decode cX11_task 19 = .ok (.aload_n 0, 1) := by decide +kernel
theorem dX11_task_20 : decode cX11_task 20 = .ok (.getfield 31, 3) := by decide +kernel
theorem dX11_task_23 : decode cX11_task 23 = .ok (.invokevirtual 100, 3) := by decide +kernel
theorem dX11_task_26 : decode cX11_task 26 = .ok (.ifCond .ne 9, 3) := by decide +kernel
theorem dX11_task_29 : decode cX11_task 29 = .ok (.aload_n 0, 1) := by decide +kernel
theorem dX11_task_30 : decode cX11_task 30 = .ok (.iconst 1, 1) := by decide +kernel
theorem dX11_task_31 : decode cX11_task 31 = .ok (.invokevirtual 92, 3) := by decide +kernel
theorem dX11_task_34 : decode cX11_task 34 = .ok (.ireturn, 1) := by decide +kernel
theorem dX11_fault_0 : decode cX11_fault 0 = .ok (.iload_n 1, 1) := by decide +kernel
theorem dX11_fault_1 : decode cX11_fault 1 = .ok (.ifCond .ne 11, 3) := by decide +kernel
theorem dX11_fault_4 : decode cX11_fault 4 = .ok (.aload_n 0, 1) := by decide +kernel
theorem dX11_fault_5 : decode cX11_fault 5 = .ok (.getfield 20, 3) := by decide +kernel
theorem dX11_fault_8 : decode cX11_fault 8 = .ok (.getfield 131, 3) := by decide +kernel
theorem dX11_fault_11 : decode cX11_fault 11 = .ok (.ireturn, 1) := by decide +kernel
theorem dX11_fault_12 : decode cX11_fault 12 = .ok (.iload_n 1, 1) := by decide +kernel
theorem dX11_fault_13 : decode cX11_fault 13 = .ok (.iconst 1, 1) := by decide +kernel
theorem dX11_fault_14 : decode cX11_fault 14 = .ok (.if_icmp .ne 13, 3) := by decide +kernel
theorem dX11_fault_17 : decode cX11_fault 17 = .ok (.aload_n 0, 1) := by decide +kernel
theorem dX11_fault_18 : decode cX11_fault 18 = .ok (.getfield 20, 3) := by decide +kernel
theorem dX11_fault_21 : decode cX11_fault 21 = .ok (.getfield 134, 3) := by decide +kernel
theorem dX11_fault_24 : decode cX11_fault 24 = .ok (.goto 4, 3) := by decide +kernel
theorem dX11_fault_27 : decode cX11_fault 27 = .ok (.iconst (-1), 1) := by decide +kernel
theorem dX11_fault_28 : decode cX11_fault 28 = .ok (.ireturn, 1) := by decide +kernel
theorem dX11_has_0 : decode cX11_has 0 = .ok (.iload_n 1, 1) := by decide +kernel
theorem dX11_has_1 : decode cX11_has 1 = .ok (.tableswitch 133 0 7 #[47, 58, 66, 77, 98, 109, 120, 128], 47) := by decide +kernel
theorem dX11_has_48 : decode cX11_has 48 = .ok (.aload_n 0, 1) := by decide +kernel
theorem dX11_has_49 : decode cX11_has 49 = .ok (.getfield 27, 3) := by decide +kernel
theorem dX11_has_52 : decode cX11_has 52 = .ok (.getfield 122, 3) := by decide +kernel
theorem dX11_has_55 : decode cX11_has 55 = .ok (.getfield 126, 3) := by decide +kernel
theorem dX11_has_58 : decode cX11_has 58 = .ok (.ireturn, 1) := by decide +kernel
theorem dX11_has_59 : decode cX11_has 59 = .ok (.aload_n 0, 1) := by decide +kernel
theorem dX11_has_60 : decode cX11_has 60 = .ok (.getfield 27, 3) := by decide +kernel
theorem dX11_has_63 : decode cX11_has 63 = .ok (.getfield 137, 3) := by decide +kernel
theorem dX11_has_66 : decode cX11_has 66 = .ok (.ireturn, 1) := by decide +kernel
theorem dX11_has_67 : decode cX11_has 67 = .ok (.aload_n 0, 1) := by decide +kernel
theorem dX11_has_68 : decode cX11_has 68 = .ok (.getfield 27, 3) := by decide +kernel
theorem dX11_has_71 : decode cX11_has 71 = .ok (.getfield 122, 3) := by decide +kernel
theorem dX11_has_74 : decode cX11_has 74 = .ok (.getfield 140, 3) := by decide +kernel
theorem dX11_has_77 : decode cX11_has 77 = .ok (.ireturn, 1) := by decide +kernel
theorem dX11_has_78 : decode cX11_has 78 = .ok (.aload_n 0, 1) := by decide +kernel
theorem dX11_has_79 : decode cX11_has 79 = .ok (.getfield 27, 3) := by decide +kernel
theorem dX11_has_82 : decode cX11_has 82 = .ok (.getfield 122, 3) := by decide +kernel
theorem dX11_has_85 : decode cX11_has 85 = .ok (.aload_n 0, 1) := by decide +kernel
theorem dX11_has_86 : decode cX11_has 86 = .ok (.getfield 27, 3) := by decide +kernel
theorem dX11_has_89 : decode cX11_has 89 = .ok (.getfield 122, 3) := by decide +kernel
theorem dX11_has_92 : decode cX11_has 92 = .ok (.getfield 126, 3) := by decide +kernel
theorem dX11_has_95 : decode cX11_has 95 = .ok (.invokevirtual 143, 3) := by decide +kernel
theorem dX11_has_98 : decode cX11_has 98 = .ok (.ireturn, 1) := by decide +kernel
theorem dX11_has_99 : decode cX11_has 99 = .ok (.aload_n 0, 1) := by decide +kernel
theorem dX11_has_100 : decode cX11_has 100 = .ok (.getfield 27, 3) := by decide +kernel
theorem dX11_has_103 : decode cX11_has 103 = .ok (.getfield 107, 3) := by decide +kernel
theorem dX11_has_106 : decode cX11_has 106 = .ok (.getfield 146, 3) := by decide +kernel
theorem dX11_has_109 : decode cX11_has 109 = .ok (.ireturn, 1) := by decide +kernel
theorem dX11_has_110 : decode cX11_has 110 = .ok (.aload_n 0, 1) := by decide +kernel
theorem dX11_has_111 : decode cX11_has 111 = .ok (.getfield 27, 3) := by decide +kernel
theorem dX11_has_114 : decode cX11_has 114 = .ok (.getfield 107, 3) := by decide +kernel
theorem dX11_has_117 : decode cX11_has 117 = .ok (.getfield 147, 3) := by decide +kernel
theorem dX11_has_120 : decode cX11_has 120 = .ok (.ireturn, 1) := by decide +kernel
theorem dX11_has_121 : decode cX11_has 121 = .ok (.aload_n 0, 1) := by decide +kernel
theorem dX11_has_122 : decode cX11_has 122 = .ok (.getfield 27, 3) := by decide +kernel
theorem dX11_has_125 : decode cX11_has 125 = .ok (.getfield 150, 3) := by decide +kernel
theorem dX11_has_128 : decode cX11_has 128 = .ok (.ireturn, 1) := by decide +kernel
theorem dX11_has_129 : decode cX11_has 129 = .ok (.aload_n 0, 1) := by decide +kernel
theorem dX11_has_130 : decode cX11_has 130 = .ok (.getfield 85, 3) := by decide +kernel
theorem dX11_has_133 : decode cX11_has 133 = .ok (.ireturn, 1) := by decide +kernel
theorem dX11_has_134 : decode cX11_has 134 = .ok (.iconst (-1), 1) := by decide +kernel
theorem dX11_has_135 : decode cX11_has 135 = .ok (.ireturn, 1) := by decide +kernel
theorem dX11_letter_0 : decode cX11_letter 0 = .ok (.iload_n 2, 1) := by decide +kernel
theorem dX11_letter_1 : decode cX11_letter 1 = .ok (.ifCond .eq 14, 3) := by decide +kernel
theorem dX11_letter_4 : decode cX11_letter 4 = .ok (.aload_n 0, 1) := by decide +kernel
theorem dX11_letter_5 : decode cX11_letter 5 = .ok (.getfield 27, 3) := by decide +kernel
theorem dX11_letter_8 : decode cX11_letter 8 = .ok (.iload_n 1, 1) := by decide +kernel
theorem dX11_letter_9 : decode cX11_letter 9 = .ok (.invokevirtual 153, 3) := by decide +kernel
theorem dX11_letter_12 : decode cX11_letter 12 = .ok (.goto 11, 3) := by decide +kernel
theorem dX11_letter_15 : decode cX11_letter 15 = .ok (.aload_n 0, 1) := by decide +kernel
theorem dX11_letter_16 : decode cX11_letter 16 = .ok (.getfield 27, 3) := by decide +kernel
theorem dX11_letter_19 : decode cX11_letter 19 = .ok (.iload_n 1, 1) := by decide +kernel
