theorem dX11_take_46 : decode cX11_take 46 = .ok (.invokestatic 265, 3) := by decide +kernel
theorem dX11_take_49 : decode cX11_take 49 = .ok (.goto 13, 3) := by decide +kernel
theorem dX11_take_52 : decode cX11_take 52 = .ok (.iload_n 1, 1) := by decide +kernel
theorem dX11_take_53 : decode cX11_take 53 = .ok (.iconst 2, 1) := by decide +kernel
theorem dX11_take_54 : decode cX11_take 54 = .ok (.if_icmp .ne 8, 3) := by decide +kernel
theorem dX11_take_57 : decode cX11_take 57 = .ok (.aload_n 0, 1) := by decide +kernel
theorem dX11_take_58 : decode cX11_take 58 = .ok (.invokevirtual 323, 3) := by decide +kernel
theorem dX11_take_61 : decode cX11_take 61 = .ok (.istore_n 2, 1) := by decide +kernel
theorem dX11_take_62 : decode cX11_take 62 = .ok (.iload_n 2, 1) := by decide +kernel
theorem dX11_take_63 : decode cX11_take 63 = .ok (.ifCond .eq 17, 3) := by decide +kernel
theorem dX11_take_66 : decode cX11_take 66 = .ok (.aload_n 0, 1) := by decide +kernel
theorem dX11_take_67 : decode cX11_take 67 = .ok (.getfield 27, 3) := by decide +kernel
theorem dX11_take_70 : decode cX11_take 70 = .ok (.aload_n 0, 1) := by decide +kernel
theorem dX11_take_71 : decode cX11_take 71 = .ok (.getfield 34, 3) := by decide +kernel
theorem dX11_take_74 : decode cX11_take 74 = .ok (.invokevirtual 231, 3) := by decide +kernel
theorem dX11_take_77 : decode cX11_take 77 = .ok (.goto 8, 3) := by decide +kernel
theorem dX11_take_80 : decode cX11_take 80 = .ok (.aload_n 0, 1) := by decide +kernel
theorem dX11_take_81 : decode cX11_take 81 = .ok (.iconst 2, 1) := by decide +kernel
theorem dX11_take_82 : decode cX11_take 82 = .ok (.invokevirtual 92, 3) := by decide +kernel
theorem dX11_take_85 : decode cX11_take 85 = .ok (.ireturn, 1) := by decide +kernel
theorem dX11_front_0 : decode cX11_front 0 = .ok (.aload_n 0, 1) := by decide +kernel
theorem dX11_front_1 : decode cX11_front 1 = .ok (.getfield 27, 3) := by decide +kernel
theorem dX11_front_4 : decode cX11_front 4 = .ok (.iload_n 1, 1) := by decide +kernel
theorem dX11_front_5 : decode cX11_front 5 = .ok (.invokevirtual 251, 3) := by decide +kernel
theorem dX11_front_8 : decode cX11_front 8 = .ok (.ifCond .eq 17, 3) := by decide +kernel
theorem dX11_front_11 : decode cX11_front 11 = .ok (.aload_n 0, 1) := by decide +kernel
theorem dX11_front_12 : decode cX11_front 12 = .ok (.getfield 60, 3) := by decide +kernel
theorem dX11_front_15 : decode cX11_front 15 = .ok (.aload_n 0, 1) := by decide +kernel
theorem dX11_front_16 : decode cX11_front 16 = .ok (.getfield 27, 3) := by decide +kernel
theorem dX11_front_19 : decode cX11_front 19 = .ok (.invokevirtual 273, 3) := by decide +kernel
theorem dX11_front_22 : decode cX11_front 22 = .ok (.ifCond .ne 7, 3) := by decide +kernel
theorem dX11_front_25 : decode cX11_front 25 = .ok (.ldc2_w 194, 3) := by decide +kernel
theorem dX11_front_28 : decode cX11_front 28 = .ok (.lreturn, 1) := by decide +kernel
theorem dX11_front_29 : decode cX11_front 29 = .ok (.aload_n 0, 1) := by decide +kernel
theorem dX11_front_30 : decode cX11_front 30 = .ok (.getfield 60, 3) := by decide +kernel
theorem dX11_front_33 : decode cX11_front 33 = .ok (.aload_n 0, 1) := by decide +kernel
theorem dX11_front_34 : decode cX11_front 34 = .ok (.getfield 27, 3) := by decide +kernel
theorem dX11_front_37 : decode cX11_front 37 = .ok (.iload_n 1, 1) := by decide +kernel
theorem dX11_front_38 : decode cX11_front 38 = .ok (.invokevirtual 326, 3) := by decide +kernel
theorem dX11_front_41 : decode cX11_front 41 = .ok (.iload_n 2, 1) := by decide +kernel
theorem dX11_front_42 : decode cX11_front 42 = .ok (.iconst (-1), 1) := by decide +kernel
theorem dX11_front_43 : decode cX11_front 43 = .ok (.if_icmp .ne 22, 3) := by decide +kernel
theorem dX11_front_46 : decode cX11_front 46 = .ok (.iload_n 3, 1) := by decide +kernel
theorem dX11_front_47 : decode cX11_front 47 = .ok (.ifCond .ne 14, 3) := by decide +kernel
theorem dX11_front_50 : decode cX11_front 50 = .ok (.aload_n 0, 1) := by decide +kernel
theorem dX11_front_51 : decode cX11_front 51 = .ok (.getfield 60, 3) := by decide +kernel
theorem dX11_front_54 : decode cX11_front 54 = .ok (.getfield 330, 3) := by decide +kernel
theorem dX11_front_57 : decode cX11_front 57 = .ok (.i2l, 1) := by decide +kernel
theorem dX11_front_58 : decode cX11_front 58 = .ok (.goto 6, 3) := by decide +kernel
theorem dX11_front_61 : decode cX11_front 61 = .ok (.ldc2_w 194, 3) := by decide +kernel
theorem dX11_front_64 : decode cX11_front 64 = .ok (.lreturn, 1) := by decide +kernel
theorem dX11_front_65 : decode cX11_front 65 = .ok (.iload_n 2, 1) := by decide +kernel
theorem dX11_front_66 : decode cX11_front 66 = .ok (.ifCond .lt 14, 3) := by decide +kernel
theorem dX11_front_69 : decode cX11_front 69 = .ok (.iload_n 2, 1) := by decide +kernel
theorem dX11_front_70 : decode cX11_front 70 = .ok (.aload_n 0, 1) := by decide +kernel
theorem dX11_front_71 : decode cX11_front 71 = .ok (.getfield 60, 3) := by decide +kernel
theorem dX11_front_74 : decode cX11_front 74 = .ok (.getfield 330, 3) := by decide +kernel
theorem dX11_front_77 : decode cX11_front 77 = .ok (.if_icmp .lt 7, 3) := by decide +kernel
theorem dX11_front_80 : decode cX11_front 80 = .ok (.ldc2_w 194, 3) := by decide +kernel
theorem dX11_front_83 : decode cX11_front 83 = .ok (.lreturn, 1) := by decide +kernel
theorem dX11_front_84 : decode cX11_front 84 = .ok (.iload_n 3, 1) := by decide +kernel
theorem dX11_front_85 : decode cX11_front 85 = .ok (.tableswitch 60 0 2 #[27, 38, 49], 27) := by decide +kernel
theorem dX11_front_112 : decode cX11_front 112 = .ok (.aload_n 0, 1) := by decide +kernel
theorem dX11_front_113 : decode cX11_front 113 = .ok (.getfield 60, 3) := by decide +kernel
theorem dX11_front_116 : decode cX11_front 116 = .ok (.getfield 333, 3) := by decide +kernel
theorem dX11_front_119 : decode cX11_front 119 = .ok (.iload_n 2, 1) := by decide +kernel
theorem dX11_front_120 : decode cX11_front 120 = .ok (.iaload, 1) := by decide +kernel
theorem dX11_front_121 : decode cX11_front 121 = .ok (.i2l, 1) := by decide +kernel
theorem dX11_front_122 : decode cX11_front 122 = .ok (.lreturn, 1) := by decide +kernel
theorem dX11_front_123 : decode cX11_front 123 = .ok (.aload_n 0, 1) := by decide +kernel
theorem dX11_front_124 : decode cX11_front 124 = .ok (.getfield 60, 3) := by decide +kernel
theorem dX11_front_127 : decode cX11_front 127 = .ok (.getfield 336, 3) := by decide +kernel
theorem dX11_front_130 : decode cX11_front 130 = .ok (.iload_n 2, 1) := by decide +kernel
theorem dX11_front_131 : decode cX11_front 131 = .ok (.iaload, 1) := by decide +kernel
theorem dX11_front_132 : decode cX11_front 132 = .ok (.i2l, 1) := by decide +kernel
theorem dX11_front_133 : decode cX11_front 133 = .ok (.lreturn, 1) := by decide +kernel
theorem dX11_front_134 : decode cX11_front 134 = .ok (.aload_n 0, 1) := by decide +kernel
theorem dX11_front_135 : decode cX11_front 135 = .ok (.getfield 60, 3) := by decide +kernel
theorem dX11_front_138 : decode cX11_front 138 = .ok (.getfield 339, 3) := by decide +kernel
theorem dX11_front_141 : decode cX11_front 141 = .ok (.iload_n 2, 1) := by decide +kernel
theorem dX11_front_142 : decode cX11_front 142 = .ok (.iaload, 1) := by decide +kernel
theorem dX11_front_143 : decode cX11_front 143 = .ok (.i2l, 1) := by decide +kernel
theorem dX11_front_144 : decode cX11_front 144 = .ok (.lreturn, 1) := by decide +kernel
theorem dX11_front_145 : decode cX11_front 145 = .ok (.ldc2_w 194, 3) := by decide +kernel
theorem dX11_front_148 : decode cX11_front 148 = .ok (.lreturn, 1) := by decide +kernel
theorem dX11_least_0 : decode cX11_least 0 = .ok (.aload_n 0, 1) := by decide +kernel
theorem dX11_least_1 : decode cX11_least 1 = .ok (.getfield 27, 3) := by decide +kernel
theorem dX11_least_4 : decode cX11_least 4 = .ok (.iload_n 1, 1) := by decide +kernel
theorem dX11_least_5 : decode cX11_least 5 = .ok (.invokevirtual 251, 3) := by decide +kernel
theorem dX11_least_8 : decode cX11_least 8 = .ok (.ifCond .eq 17, 3) := by decide +kernel
theorem dX11_least_11 : decode cX11_least 11 = .ok (.aload_n 0, 1) := by decide +kernel
theorem dX11_least_12 : decode cX11_least 12 = .ok (.getfield 60, 3) := by decide +kernel
theorem dX11_least_15 : decode cX11_least 15 = .ok (.aload_n 0, 1) := by decide +kernel
theorem dX11_least_16 : decode cX11_least 16 = .ok (.getfield 27, 3) := by decide +kernel
theorem dX11_least_19 : decode cX11_least 19 = .ok (.invokevirtual 273, 3) := by decide +kernel
theorem dX11_least_22 : decode cX11_least 22 = .ok (.ifCond .ne 7, 3) := by decide +kernel
theorem dX11_least_25 : decode cX11_least 25 = .ok (.ldc2_w 194, 3) := by decide +kernel
theorem dX11_least_28 : decode cX11_least 28 = .ok (.lreturn, 1) := by decide +kernel
theorem dX11_least_29 : decode cX11_least 29 = .ok (.aload_n 0, 1) := by decide +kernel
theorem dX11_least_30 : decode cX11_least 30 = .ok (.getfield 60, 3) := by decide +kernel
theorem dX11_least_33 : decode cX11_least 33 = .ok (.aload_n 0, 1) := by decide +kernel
theorem dX11_least_34 : decode cX11_least 34 = .ok (.getfield 27, 3) := by decide +kernel
theorem dX11_least_37 : decode cX11_least 37 = .ok (.iload_n 1, 1) := by decide +kernel
theorem dX11_least_38 : decode cX11_least 38 = .ok (.iload_n 2, 1) := by decide +kernel
theorem dX11_least_39 : decode cX11_least 39 = .ok (.invokevirtual 342, 3) := by decide +kernel
theorem dX11_least_42 : decode cX11_least 42 = .ok (.lreturn, 1) := by decide +kernel
theorem dX11_certificate_0 : decode cX11_certificate 0 = .ok (.iload_n 1, 1) := by decide +kernel
theorem dX11_certificate_1 : decode cX11_certificate 1 = .ok (.ifCond .lt 27, 3) := by decide +kernel
theorem dX11_certificate_4 : decode cX11_certificate 4 = .ok (.iload_n 1, 1) := by decide +kernel
theorem dX11_certificate_5 : decode cX11_certificate 5 = .ok (.bipush 25, 2) := by decide +kernel
theorem dX11_certificate_7 : decode cX11_certificate 7 = .ok (.aload_n 0, 1) := by decide +kernel
theorem dX11_certificate_8 : decode cX11_certificate 8 = .ok (.getfield 27, 3) := by decide +kernel
theorem dX11_certificate_11 : decode cX11_certificate 11 = .ok (.getfield 122, 3) := by decide +kernel
theorem dX11_certificate_14 : decode cX11_certificate 14 = .ok (.getfield 126, 3) := by decide +kernel
theorem dX11_certificate_17 : decode cX11_certificate 17 = .ok (.imul, 1) := by decide +kernel
theorem dX11_certificate_18 : decode cX11_certificate 18 = .ok (.if_icmp .ge 10, 3) := by decide +kernel
theorem dX11_certificate_21 : decode cX11_certificate 21 = .ok (.aload_n 0, 1) := by decide +kernel
theorem dX11_certificate_22 : decode cX11_certificate 22 = .ok (.invokevirtual 254, 3) := by decide +kernel
theorem dX11_certificate_25 : decode cX11_certificate 25 = .ok (.ifCond .ne 5, 3) := by decide +kernel
theorem dX11_certificate_28 : decode cX11_certificate 28 = .ok (.iconst (-1), 1) := by decide +kernel
theorem dX11_certificate_29 : decode cX11_certificate 29 = .ok (.ireturn, 1) := by decide +kernel
theorem dX11_certificate_30 : decode cX11_certificate 30 = .ok (.iload_n 1, 1) := by decide +kernel
theorem dX11_certificate_31 : decode cX11_certificate 31 = .ok (.bipush 25, 2) := by decide +kernel
theorem dX11_certificate_33 : decode cX11_certificate 33 = .ok (.idiv, 1) := by decide +kernel
theorem dX11_certificate_34 : decode cX11_certificate 34 = .ok (.istore_n 2, 1) := by decide +kernel
theorem dX11_certificate_35 : decode cX11_certificate 35 = .ok (.iload_n 1, 1) := by decide +kernel
theorem dX11_certificate_36 : decode cX11_certificate 36 = .ok (.bipush 25, 2) := by decide +kernel
theorem dX11_certificate_38 : decode cX11_certificate 38 = .ok (.irem, 1) := by decide +kernel
theorem dX11_certificate_39 : decode cX11_certificate 39 = .ok (.istore_n 3, 1) := by decide +kernel
theorem dX11_certificate_40 : decode cX11_certificate 40 = .ok (.iload_n 3, 1) := by decide +kernel
theorem dX11_certificate_41 : decode cX11_certificate 41 = .ok (.ifCond .ne 16, 3) := by decide +kernel
theorem dX11_certificate_44 : decode cX11_certificate 44 = .ok (.aload_n 0, 1) := by decide +kernel
theorem dX11_certificate_45 : decode cX11_certificate 45 = .ok (.getfield 27, 3) := by decide +kernel
theorem dX11_certificate_48 : decode cX11_certificate 48 = .ok (.aload_n 0, 1) := by decide +kernel
theorem dX11_certificate_49 : decode cX11_certificate 49 = .ok (.getfield 34, 3) := by decide +kernel
theorem dX11_certificate_52 : decode cX11_certificate 52 = .ok (.iload_n 2, 1) := by decide +kernel
theorem dX11_certificate_53 : decode cX11_certificate 53 = .ok (.invokevirtual 224, 3) := by decide +kernel
theorem dX11_certificate_56 : decode cX11_certificate 56 = .ok (.ireturn, 1) := by decide +kernel
theorem dX11_certificate_57 : decode cX11_certificate 57 = .ok (.iload_n 3, 1) := by decide +kernel
theorem dX11_certificate_58 : decode cX11_certificate 58 = .ok (.bipush 8, 2) := by decide +kernel
theorem dX11_certificate_60 : decode cX11_certificate 60 = .ok (.if_icmp .gt 22, 3) := by decide +kernel
theorem dX11_certificate_63 : decode cX11_certificate 63 = .ok (.aload_n 0, 1) := by decide +kernel
theorem dX11_certificate_64 : decode cX11_certificate 64 = .ok (.getfield 27, 3) := by decide +kernel
theorem dX11_certificate_67 : decode cX11_certificate 67 = .ok (.getfield 200, 3) := by decide +kernel
theorem dX11_certificate_70 : decode cX11_certificate 70 = .ok (.getfield 211, 3) := by decide +kernel
theorem dX11_certificate_73 : decode cX11_certificate 73 = .ok (.iload_n 2, 1) := by decide +kernel
theorem dX11_certificate_74 : decode cX11_certificate 74 = .ok (.laload, 1) := by decide +kernel
theorem dX11_certificate_75 : decode cX11_certificate 75 = .ok (.iload_n 3, 1) := by decide +kernel
theorem dX11_certificate_76 : decode cX11_certificate 76 = .ok (.iconst 1, 1) := by decide +kernel
theorem dX11_certificate_77 : decode cX11_certificate 77 = .ok (.isub, 1) := by decide +kernel
theorem dX11_certificate_78 : decode cX11_certificate 78 = .ok (.invokestatic 346, 3) := by decide +kernel
theorem dX11_certificate_81 : decode cX11_certificate 81 = .ok (.ireturn, 1) := by decide +kernel
theorem dX11_certificate_82 : decode cX11_certificate 82 = .ok (.iload_n 3, 1) := by decide +kernel
theorem dX11_certificate_83 : decode cX11_certificate 83 = .ok (.bipush 16, 2) := by decide +kernel
theorem dX11_certificate_85 : decode cX11_certificate 85 = .ok (.if_icmp .gt 23, 3) := by decide +kernel
theorem dX11_certificate_88 : decode cX11_certificate 88 = .ok (.aload_n 0, 1) := by decide +kernel
theorem dX11_certificate_89 : decode cX11_certificate 89 = .ok (.getfield 27, 3) := by decide +kernel
theorem dX11_certificate_92 : decode cX11_certificate 92 = .ok (.getfield 200, 3) := by decide +kernel
theorem dX11_certificate_95 : decode cX11_certificate 95 = .ok (.getfield 207, 3) := by decide +kernel
theorem dX11_certificate_98 : decode cX11_certificate 98 = .ok (.iload_n 2, 1) := by decide +kernel
theorem dX11_certificate_99 : decode cX11_certificate 99 = .ok (.laload, 1) := by decide +kernel
theorem dX11_certificate_100 : decode cX11_certificate 100 = .ok (.iload_n 3, 1) := by decide +kernel
theorem dX11_certificate_101 : decode cX11_certificate 101 = .ok (.bipush 9, 2) := by decide +kernel
theorem dX11_certificate_103 : decode cX11_certificate 103 = .ok (.isub, 1) := by decide +kernel
theorem dX11_certificate_104 : decode cX11_certificate 104 = .ok (.invokestatic 346, 3) := by decide +kernel
theorem dX11_certificate_107 : decode cX11_certificate 107 = .ok (.ireturn, 1) := by decide +kernel
theorem dX11_certificate_108 : decode cX11_certificate 108 = .ok (.aload_n 0, 1) := by decide +kernel
theorem dX11_certificate_109 : decode cX11_certificate 109 = .ok (.getfield 43, 3) := by decide +kernel
theorem dX11_certificate_112 : decode cX11_certificate 112 = .ok (.getfield 248, 3) := by decide +kernel
theorem dX11_certificate_115 : decode cX11_certificate 115 = .ok (.iload_n 2, 1) := by decide +kernel
theorem dX11_certificate_116 : decode cX11_certificate 116 = .ok (.laload, 1) := by decide +kernel
theorem dX11_certificate_117 : decode cX11_certificate 117 = .ok (.iload_n 3, 1) := by decide +kernel
theorem dX11_certificate_118 : decode cX11_certificate 118 = .ok (.bipush 17, 2) := by decide +kernel
theorem dX11_certificate_120 : decode cX11_certificate 120 = .ok (.isub, 1) := by decide +kernel
theorem dX11_certificate_121 : decode cX11_certificate 121 = .ok (.invokestatic 346, 3) := by decide +kernel
theorem dX11_certificate_124 : decode cX11_certificate 124 = .ok (.ireturn, 1) := by decide +kernel
theorem dX11_check_0 : decode cX11_check 0 = .ok (.aload_n 0, 1) := by decide +kernel
theorem dX11_check_1 : decode cX11_check 1 = .ok (.getfield 89, 3) := by decide +kernel
theorem dX11_check_4 : decode cX11_check 4 = .ok (.istore_n 1, 1) := by decide +kernel
theorem dX11_check_5 : decode cX11_check 5 = .ok (.aload_n 0, 1) := by decide +kernel
theorem dX11_check_6 : decode cX11_check 6 = .ok (.iconst 0, 1) := by decide +kernel
theorem dX11_check_7 : decode cX11_check 7 = .ok (.putfield 89, 3) := by decide +kernel
theorem dX11_check_10 : decode cX11_check 10 = .ok (.aload_n 0, 1) := by decide +kernel
theorem dX11_check_11 : decode cX11_check 11 = .ok (.getfield 74, 3) := by decide +kernel
theorem dX11_check_14 : decode cX11_check 14 = .ok (.aload_n 0, 1) := by decide +kernel
theorem dX11_check_15 : decode cX11_check 15 = .ok (.getfield 9, 3) := by decide +kernel
theorem dX11_check_18 : decode cX11_check 18 = .ok (.iload_n 1, 1) := by decide +kernel
theorem dX11_check_19 : decode cX11_check 19 = .ok (.aload_n 0, 1) := by decide +kernel
theorem dX11_check_20 : decode cX11_check 20 = .ok (.getfield 27, 3) := by decide +kernel
theorem dX11_check_23 : decode cX11_check 23 = .ok (.invokevirtual 350, 3) := by decide +kernel
theorem dX11_check_26 : decode cX11_check 26 = .ok (.ifCond .ne 11, 3) := by decide +kernel
theorem dX11_check_29 : decode cX11_check 29 = .ok (.aload_n 0, 1) := by decide +kernel
theorem dX11_check_30 : decode cX11_check 30 = .ok (.iconst 3, 1) := by decide +kernel
theorem dX11_check_31 : decode cX11_check 31 = .ok (.invokevirtual 92, 3) := by decide +kernel
theorem dX11_check_34 : decode cX11_check 34 = .ok (.pop, 1) := by decide +kernel
theorem dX11_check_35 : decode cX11_check 35 = .ok (.iconst 0, 1) := by decide +kernel
theorem dX11_check_36 : decode cX11_check 36 = .ok (.ireturn, 1) := by decide +kernel
theorem dX11_check_37 : decode cX11_check 37 = .ok (.iconst 1, 1) := by decide +kernel
theorem dX11_check_38 : decode cX11_check 38 = .ok (.ireturn, 1) := by decide +kernel
theorem dX11_broken_0 : decode cX11_broken 0 = .ok (.iload_n 1, 1) := by decide +kernel
theorem dX11_broken_1 : decode cX11_broken 1 = .ok (.ifCond .ne 11, 3) := by decide +kernel
theorem dX11_broken_4 : decode cX11_broken 4 = .ok (.aload_n 0, 1) := by decide +kernel
theorem dX11_broken_5 : decode cX11_broken 5 = .ok (.getfield 74, 3) := by decide +kernel
theorem dX11_broken_8 : decode cX11_broken 8 = .ok (.getfield 353, 3) := by decide +kernel
theorem dX11_broken_11 : decode cX11_broken 11 = .ok (.ireturn, 1) := by decide +kernel
theorem dX11_broken_12 : decode cX11_broken 12 = .ok (.iload_n 1, 1) := by decide +kernel
theorem dX11_broken_13 : decode cX11_broken 13 = .ok (.iconst 1, 1) := by decide +kernel
theorem dX11_broken_14 : decode cX11_broken 14 = .ok (.if_icmp .ne 13, 3) := by decide +kernel
theorem dX11_broken_17 : decode cX11_broken 17 = .ok (.aload_n 0, 1) := by decide +kernel
theorem dX11_broken_18 : decode cX11_broken 18 = .ok (.getfield 74, 3) := by decide +kernel
theorem dX11_broken_21 : decode cX11_broken 21 = .ok (.getfield 356, 3) := by decide +kernel
theorem dX11_broken_24 : decode cX11_broken 24 = .ok (.goto 4, 3) := by decide +kernel
theorem dX11_broken_27 : decode cX11_broken 27 = .ok (.iconst (-1), 1) := by decide +kernel
theorem dX11_broken_28 : decode cX11_broken 28 = .ok (.ireturn, 1) := by decide +kernel
theorem dX11_trials_0 : decode cX11_trials 0 = .ok (.iload_n 1, 1) := by decide +kernel
theorem dX11_trials_1 : decode cX11_trials 1 = .ok (.iconst 1, 1) := by decide +kernel
theorem dX11_trials_2 : decode cX11_trials 2 = .ok (.if_icmp .lt 27, 3) := by decide +kernel
theorem dX11_trials_5 : decode cX11_trials 5 = .ok (.iload_n 1, 1) := by decide +kernel
theorem dX11_trials_6 : decode cX11_trials 6 = .ok (.bipush 40, 2) := by decide +kernel
theorem dX11_trials_8 : decode cX11_trials 8 = .ok (.if_icmp .gt 21, 3) := by decide +kernel
theorem dX11_trials_11 : decode cX11_trials 11 = .ok (.aload_n 0, 1) := by decide +kernel
theorem dX11_trials_12 : decode cX11_trials 12 = .ok (.getfield 27, 3) := by decide +kernel
theorem dX11_trials_15 : decode cX11_trials 15 = .ok (.iload_n 2, 1) := by decide +kernel
theorem dX11_trials_16 : decode cX11_trials 16 = .ok (.invokevirtual 157, 3) := by decide +kernel
theorem dX11_trials_19 : decode cX11_trials 19 = .ok (.ifCond .eq 10, 3) := by decide +kernel
theorem dX11_trials_22 : decode cX11_trials 22 = .ok (.aload_n 0, 1) := by decide +kernel
theorem dX11_trials_23 : decode cX11_trials 23 = .ok (.invokevirtual 254, 3) := by decide +kernel
theorem dX11_trials_26 : decode cX11_trials 26 = .ok (.ifCond .ne 10, 3) := by decide +kernel
theorem dX11_trials_29 : decode cX11_trials 29 = .ok (.aload_n 0, 1) := by decide +kernel
theorem dX11_trials_30 : decode cX11_trials 30 = .ok (.iconst 4, 1) := by decide +kernel
theorem dX11_trials_31 : decode cX11_trials 31 = .ok (.invokevirtual 92, 3) := by decide +kernel
theorem dX11_trials_34 : decode cX11_trials 34 = .ok (.i2l, 1) := by decide +kernel
theorem dX11_trials_35 : decode cX11_trials 35 = .ok (.lreturn, 1) := by decide +kernel
theorem dX11_trials_36 : decode cX11_trials 36 = .ok (.lconst 0, 1) := by decide +kernel
theorem dX11_trials_37 : decode cX11_trials 37 = .ok (.lstore_n 3, 1) := by decide +kernel
theorem dX11_trials_38 : decode cX11_trials 38 = .ok (.iconst 0, 1) := by decide +kernel
theorem dX11_trials_39 : decode cX11_trials 39 = .ok (.istore 5, 2) := by decide +kernel
theorem dX11_trials_41 : decode cX11_trials 41 = .ok (.iload 5, 2) := by decide +kernel
theorem dX11_trials_43 : decode cX11_trials 43 = .ok (.iload_n 1, 1) := by decide +kernel
theorem dX11_trials_44 : decode cX11_trials 44 = .ok (.if_icmp .ge 59, 3) := by decide +kernel
theorem dX11_trials_47 : decode cX11_trials 47 = .ok (.aload_n 0, 1) := by decide +kernel
theorem dX11_trials_48 : decode cX11_trials 48 = .ok (.aload_n 0, 1) := by decide +kernel
theorem dX11_trials_49 : decode cX11_trials 49 = .ok (.getfield 81, 3) := by decide +kernel
theorem dX11_trials_52 : decode cX11_trials 52 = .ok (.aload_n 0, 1) := by decide +kernel
theorem dX11_trials_53 : decode cX11_trials 53 = .ok (.getfield 27, 3) := by decide +kernel
theorem dX11_trials_56 : decode cX11_trials 56 = .ok (.aload_n 0, 1) := by decide +kernel
theorem dX11_trials_57 : decode cX11_trials 57 = .ok (.getfield 34, 3) := by decide +kernel
theorem dX11_trials_60 : decode cX11_trials 60 = .ok (.aload_n 0, 1) := by decide +kernel
theorem dX11_trials_61 : decode cX11_trials 61 = .ok (.getfield 85, 3) := by decide +kernel
theorem dX11_trials_64 : decode cX11_trials 64 = .ok (.invokevirtual 357, 3) := by decide +kernel
theorem dX11_trials_67 : decode cX11_trials 67 = .ok (.putfield 85, 3) := by decide +kernel
theorem dX11_trials_70 : decode cX11_trials 70 = .ok (.lload_n 3, 1) := by decide +kernel
theorem dX11_trials_71 : decode cX11_trials 71 = .ok (.aload_n 0, 1) := by decide +kernel
theorem dX11_trials_72 : decode cX11_trials 72 = .ok (.getfield 81, 3) := by decide +kernel
theorem dX11_trials_75 : decode cX11_trials 75 = .ok (.getfield 361, 3) := by decide +kernel
theorem dX11_trials_78 : decode cX11_trials 78 = .ok (.iload_n 2, 1) := by decide +kernel
theorem dX11_trials_79 : decode cX11_trials 79 = .ok (.laload, 1) := by decide +kernel
theorem dX11_trials_80 : decode cX11_trials 80 = .ok (.aload_n 0, 1) := by decide +kernel
theorem dX11_trials_81 : decode cX11_trials 81 = .ok (.getfield 81, 3) := by decide +kernel
theorem dX11_trials_84 : decode cX11_trials 84 = .ok (.getfield 364, 3) := by decide +kernel
theorem dX11_trials_87 : decode cX11_trials 87 = .ok (.iload_n 2, 1) := by decide +kernel
theorem dX11_trials_88 : decode cX11_trials 88 = .ok (.laload, 1) := by decide +kernel
theorem dX11_trials_89 : decode cX11_trials 89 = .ok (.lsub, 1) := by decide +kernel
theorem dX11_trials_90 : decode cX11_trials 90 = .ok (.invokestatic 367, 3) := by decide +kernel
theorem dX11_trials_93 : decode cX11_trials 93 = .ok (.invokestatic 373, 3) := by decide +kernel
theorem dX11_trials_96 : decode cX11_trials 96 = .ok (.lstore_n 3, 1) := by decide +kernel
theorem dX11_trials_97 : decode cX11_trials 97 = .ok (.iinc 5 1, 3) := by decide +kernel
theorem dX11_trials_100 : decode cX11_trials 100 = .ok (.goto (-59), 3) := by decide +kernel
theorem dX11_trials_103 : decode cX11_trials 103 = .ok (.lload_n 3, 1) := by decide +kernel
theorem dX11_trials_104 : decode cX11_trials 104 = .ok (.lreturn, 1) := by decide +kernel
theorem dX11_trial_0 : decode cX11_trial 0 = .ok (.aload_n 0, 1) := by decide +kernel
theorem dX11_trial_1 : decode cX11_trial 1 = .ok (.getfield 27, 3) := by decide +kernel
theorem dX11_trial_4 : decode cX11_trial 4 = .ok (.iload_n 1, 1) := by decide +kernel
theorem dX11_trial_5 : decode cX11_trial 5 = .ok (.invokevirtual 157, 3) := by decide +kernel
theorem dX11_trial_8 : decode cX11_trial 8 = .ok (.ifCond .eq 10, 3) := by decide +kernel
theorem dX11_trial_11 : decode cX11_trial 11 = .ok (.aload_n 0, 1) := by decide +kernel
theorem dX11_trial_12 : decode cX11_trial 12 = .ok (.invokevirtual 254, 3) := by decide +kernel
theorem dX11_trial_15 : decode cX11_trial 15 = .ok (.ifCond .ne 7, 3) := by decide +kernel
theorem dX11_trial_18 : decode cX11_trial 18 = .ok (.ldc2_w 194, 3) := by decide +kernel
theorem dX11_trial_21 : decode cX11_trial 21 = .ok (.lreturn, 1) := by decide +kernel
theorem dX11_trial_22 : decode cX11_trial 22 = .ok (.aload_n 0, 1) := by decide +kernel
theorem dX11_trial_23 : decode cX11_trial 23 = .ok (.getfield 81, 3) := by decide +kernel
theorem dX11_trial_26 : decode cX11_trial 26 = .ok (.aload_n 0, 1) := by decide +kernel
theorem dX11_trial_27 : decode cX11_trial 27 = .ok (.getfield 27, 3) := by decide +kernel
theorem dX11_trial_30 : decode cX11_trial 30 = .ok (.aload_n 0, 1) := by decide +kernel
theorem dX11_trial_31 : decode cX11_trial 31 = .ok (.getfield 34, 3) := by decide +kernel
theorem dX11_trial_34 : decode cX11_trial 34 = .ok (.aload_n 0, 1) := by decide +kernel
theorem dX11_trial_35 : decode cX11_trial 35 = .ok (.getfield 85, 3) := by decide +kernel
theorem dX11_trial_38 : decode cX11_trial 38 = .ok (.invokevirtual 357, 3) := by decide +kernel
theorem dX11_trial_41 : decode cX11_trial 41 = .ok (.pop, 1) := by decide +kernel
theorem dX11_trial_42 : decode cX11_trial 42 = .ok (.iload_n 2, 1) := by decide +kernel
theorem dX11_trial_43 : decode cX11_trial 43 = .ok (.ifCond .eq 15, 3) := by decide +kernel
theorem dX11_trial_46 : decode cX11_trial 46 = .ok (.aload_n 0, 1) := by decide +kernel
theorem dX11_trial_47 : decode cX11_trial 47 = .ok (.getfield 81, 3) := by decide +kernel
theorem dX11_trial_50 : decode cX11_trial 50 = .ok (.getfield 361, 3) := by decide +kernel
theorem dX11_trial_53 : decode cX11_trial 53 = .ok (.iload_n 1, 1) := by decide +kernel
theorem dX11_trial_54 : decode cX11_trial 54 = .ok (.laload, 1) := by decide +kernel
theorem dX11_trial_55 : decode cX11_trial 55 = .ok (.goto 12, 3) := by decide +kernel
theorem dX11_trial_58 : decode cX11_trial 58 = .ok (.aload_n 0, 1) := by decide +kernel
theorem dX11_trial_59 : decode cX11_trial 59 = .ok (.getfield 81, 3) := by decide +kernel
theorem dX11_trial_62 : decode cX11_trial 62 = .ok (.getfield 364, 3) := by decide +kernel
theorem dX11_trial_65 : decode cX11_trial 65 = .ok (.iload_n 1, 1) := by decide +kernel
theorem dX11_trial_66 : decode cX11_trial 66 = .ok (.laload, 1) := by decide +kernel
theorem dX11_trial_67 : decode cX11_trial 67 = .ok (.lreturn, 1) := by decide +kernel
theorem dX11_seed_0 : decode cX11_seed 0 = .ok (.iload_n 1, 1) := by decide +kernel
theorem dX11_seed_1 : decode cX11_seed 1 = .ok (.ifCond .ge 11, 3) := by decide +kernel
theorem dX11_seed_4 : decode cX11_seed 4 = .ok (.aload_n 0, 1) := by decide +kernel
theorem dX11_seed_5 : decode cX11_seed 5 = .ok (.iconst 4, 1) := by decide +kernel
theorem dX11_seed_6 : decode cX11_seed 6 = .ok (.invokevirtual 92, 3) := by decide +kernel
theorem dX11_seed_9 : decode cX11_seed 9 = .ok (.pop, 1) := by decide +kernel
theorem dX11_seed_10 : decode cX11_seed 10 = .ok (.iconst 0, 1) := by decide +kernel
theorem dX11_seed_11 : decode cX11_seed 11 = .ok (.ireturn, 1) := by decide +kernel
theorem dX11_seed_12 : decode cX11_seed 12 = .ok (.aload_n 0, 1) := by decide +kernel
theorem dX11_seed_13 : decode cX11_seed 13 = .ok (.iload_n 1, 1) := by decide +kernel
theorem dX11_seed_14 : decode cX11_seed 14 = .ok (.putfield 85, 3) := by decide +kernel
theorem dX11_seed_17 : decode cX11_seed 17 = .ok (.iconst 1, 1) := by decide +kernel
theorem dX11_seed_18 : decode cX11_seed 18 = .ok (.ireturn, 1) := by decide +kernel
theorem dX11_status_0 : decode cX11_status 0 = .ok (.iload_n 1, 1) := by decide +kernel
theorem dX11_status_1 : decode cX11_status 1 = .ok (.ifCond .lt 17, 3) := by decide +kernel
theorem dX11_status_4 : decode cX11_status 4 = .ok (.iload_n 1, 1) := by decide +kernel
theorem dX11_status_5 : decode cX11_status 5 = .ok (.iconst 5, 1) := by decide +kernel
theorem dX11_status_6 : decode cX11_status 6 = .ok (.if_icmp .ge 12, 3) := by decide +kernel
theorem dX11_status_9 : decode cX11_status 9 = .ok (.aload_n 0, 1) := by decide +kernel
theorem dX11_status_10 : decode cX11_status 10 = .ok (.getfield 13, 3) := by decide +kernel
theorem dX11_status_13 : decode cX11_status 13 = .ok (.iload_n 1, 1) := by decide +kernel
theorem dX11_status_14 : decode cX11_status 14 = .ok (.iaload, 1) := by decide +kernel
theorem dX11_status_15 : decode cX11_status 15 = .ok (.goto 4, 3) := by decide +kernel
theorem dX11_status_18 : decode cX11_status 18 = .ok (.iconst (-1), 1) := by decide +kernel
theorem dX11_status_19 : decode cX11_status 19 = .ok (.ireturn, 1) := by decide +kernel
theorem dX11_refuse_0 : decode cX11_refuse 0 = .ok (.iload_n 1, 1) := by decide +kernel
theorem dX11_refuse_1 : decode cX11_refuse 1 = .ok (.ifCond .lt 18, 3) := by decide +kernel
theorem dX11_refuse_4 : decode cX11_refuse 4 = .ok (.iload_n 1, 1) := by decide +kernel
theorem dX11_refuse_5 : decode cX11_refuse 5 = .ok (.iconst 5, 1) := by decide +kernel
theorem dX11_refuse_6 : decode cX11_refuse 6 = .ok (.if_icmp .ge 13, 3) := by decide +kernel
theorem dX11_refuse_9 : decode cX11_refuse 9 = .ok (.aload_n 0, 1) := by decide +kernel
theorem dX11_refuse_10 : decode cX11_refuse 10 = .ok (.getfield 13, 3) := by decide +kernel
theorem dX11_refuse_13 : decode cX11_refuse 13 = .ok (.iload_n 1, 1) := by decide +kernel
theorem dX11_refuse_14 : decode cX11_refuse 14 = .ok (.dup2, 1) := by decide +kernel
theorem dX11_refuse_15 : decode cX11_refuse 15 = .ok (.iaload, 1) := by decide +kernel
theorem dX11_refuse_16 : decode cX11_refuse 16 = .ok (.iconst 1, 1) := by decide +kernel
theorem dX11_refuse_17 : decode cX11_refuse 17 = .ok (.iadd, 1) := by decide +kernel
theorem dX11_refuse_18 : decode cX11_refuse 18 = .ok (.iastore, 1) := by decide +kernel
theorem dX11_refuse_19 : decode cX11_refuse 19 = .ok (.iconst (-1), 1) := by decide +kernel
theorem dX11_refuse_20 : decode cX11_refuse 20 = .ok (.ireturn, 1) := by decide +kernel
theorem dX11_putBytes_0 : decode cX11_putBytes 0 = .ok (.bipush 24, 2) := by decide +kernel
theorem dX11_putBytes_2 : decode cX11_putBytes 2 = .ok (.istore_n 2, 1) := by decide +kernel
theorem dX11_putBytes_3 : decode cX11_putBytes 3 = .ok (.iload_n 2, 1) := by decide +kernel
theorem dX11_putBytes_4 : decode cX11_putBytes 4 = .ok (.ifCond .lt 42, 3) := by decide +kernel
theorem dX11_putBytes_7 : decode cX11_putBytes 7 = .ok (.aload_n 0, 1) := by decide +kernel
theorem dX11_putBytes_8 : decode cX11_putBytes 8 = .ok (.getfield 89, 3) := by decide +kernel
theorem dX11_putBytes_11 : decode cX11_putBytes 11 = .ok (.sipush 1200, 3) := by decide +kernel
theorem dX11_putBytes_14 : decode cX11_putBytes 14 = .ok (.if_icmp .ge 26, 3) := by decide +kernel
theorem dX11_putBytes_17 : decode cX11_putBytes 17 = .ok (.aload_n 0, 1) := by decide +kernel
theorem dX11_putBytes_18 : decode cX11_putBytes 18 = .ok (.getfield 9, 3) := by decide +kernel
theorem dX11_putBytes_21 : decode cX11_putBytes 21 = .ok (.aload_n 0, 1) := by decide +kernel
theorem dX11_putBytes_22 : decode cX11_putBytes 22 = .ok (.getfield 89, 3) := by decide +kernel
theorem dX11_putBytes_25 : decode cX11_putBytes 25 = .ok (.iload_n 1, 1) := by decide +kernel
theorem dX11_putBytes_26 : decode cX11_putBytes 26 = .ok (.iload_n 2, 1) := by decide +kernel
theorem dX11_putBytes_27 : decode cX11_putBytes 27 = .ok (.ishr, 1) := by decide +kernel
theorem dX11_putBytes_28 : decode cX11_putBytes 28 = .ok (.i2b, 1) := by decide +kernel
theorem dX11_putBytes_29 : decode cX11_putBytes 29 = .ok (.bastore, 1) := by decide +kernel
theorem dX11_putBytes_30 : decode cX11_putBytes 30 = .ok (.aload_n 0, 1) := by decide +kernel
theorem dX11_putBytes_31 : decode cX11_putBytes 31 = .ok (.dup, 1) := by decide +kernel
theorem dX11_putBytes_32 : decode cX11_putBytes 32 = .ok (.getfield 89, 3) := by decide +kernel
theorem dX11_putBytes_35 : decode cX11_putBytes 35 = .ok (.iconst 1, 1) := by decide +kernel
theorem dX11_putBytes_36 : decode cX11_putBytes 36 = .ok (.iadd, 1) := by decide +kernel
theorem dX11_putBytes_37 : decode cX11_putBytes 37 = .ok (.putfield 89, 3) := by decide +kernel
theorem dX11_putBytes_40 : decode cX11_putBytes 40 = .ok (.iinc 2 (-8), 3) := by decide +kernel
theorem dX11_putBytes_43 : decode cX11_putBytes 43 = .ok (.goto (-40), 3) := by decide +kernel
theorem dX11_putBytes_46 : decode cX11_putBytes 46 = .ok (.return_, 1) := by decide +kernel
theorem dX11_handPasses_0 : decode cX11_handPasses 0 = .ok (.aload_n 0, 1) := by decide +kernel
theorem dX11_handPasses_1 : decode cX11_handPasses 1 = .ok (.getfield 27, 3) := by decide +kernel
theorem dX11_handPasses_4 : decode cX11_handPasses 4 = .ok (.invokevirtual 220, 3) := by decide +kernel
theorem dX11_handPasses_7 : decode cX11_handPasses 7 = .ok (.ifCond .eq 32, 3) := by decide +kernel
theorem dX11_handPasses_10 : decode cX11_handPasses 10 = .ok (.aload_n 0, 1) := by decide +kernel
theorem dX11_handPasses_11 : decode cX11_handPasses 11 = .ok (.getfield 43, 3) := by decide +kernel
theorem dX11_handPasses_14 : decode cX11_handPasses 14 = .ok (.aload_n 0, 1) := by decide +kernel
theorem dX11_handPasses_15 : decode cX11_handPasses 15 = .ok (.getfield 27, 3) := by decide +kernel
theorem dX11_handPasses_18 : decode cX11_handPasses 18 = .ok (.aload_n 0, 1) := by decide +kernel
theorem dX11_handPasses_19 : decode cX11_handPasses 19 = .ok (.getfield 27, 3) := by decide +kernel
theorem dX11_handPasses_22 : decode cX11_handPasses 22 = .ok (.getfield 200, 3) := by decide +kernel
theorem dX11_handPasses_25 : decode cX11_handPasses 25 = .ok (.aload_n 0, 1) := by decide +kernel
theorem dX11_handPasses_26 : decode cX11_handPasses 26 = .ok (.getfield 34, 3) := by decide +kernel
theorem dX11_handPasses_29 : decode cX11_handPasses 29 = .ok (.invokevirtual 238, 3) := by decide +kernel
theorem dX11_handPasses_32 : decode cX11_handPasses 32 = .ok (.ifCond .eq 7, 3) := by decide +kernel
theorem dX11_handPasses_35 : decode cX11_handPasses 35 = .ok (.iconst 1, 1) := by decide +kernel
theorem dX11_handPasses_36 : decode cX11_handPasses 36 = .ok (.goto 4, 3) := by decide +kernel
theorem dX11_handPasses_39 : decode cX11_handPasses 39 = .ok (.iconst 0, 1) := by decide +kernel
theorem dX11_handPasses_40 : decode cX11_handPasses 40 = .ok (.ireturn, 1) := by decide +kernel
theorem dX11_passesLonger_0 : decode cX11_passesLonger 0 = .ok (.aload_n 0, 1) := by decide +kernel
theorem dX11_passesLonger_1 : decode cX11_passesLonger 1 = .ok (.getfield 53, 3) := by decide +kernel
theorem dX11_passesLonger_4 : decode cX11_passesLonger 4 = .ok (.aload_n 0, 1) := by decide +kernel
theorem dX11_passesLonger_5 : decode cX11_passesLonger 5 = .ok (.getfield 27, 3) := by decide +kernel
theorem dX11_passesLonger_8 : decode cX11_passesLonger 8 = .ok (.getfield 122, 3) := by decide +kernel
theorem dX11_passesLonger_11 : decode cX11_passesLonger 11 = .ok (.iload_n 1, 1) := by decide +kernel
theorem dX11_passesLonger_12 : decode cX11_passesLonger 12 = .ok (.iload_n 2, 1) := by decide +kernel
theorem dX11_passesLonger_13 : decode cX11_passesLonger 13 = .ok (.invokevirtual 377, 3) := by decide +kernel
theorem dX11_passesLonger_16 : decode cX11_passesLonger 16 = .ok (.aload_n 0, 1) := by decide +kernel
theorem dX11_passesLonger_17 : decode cX11_passesLonger 17 = .ok (.getfield 47, 3) := by decide +kernel
theorem dX11_passesLonger_20 : decode cX11_passesLonger 20 = .ok (.aload_n 0, 1) := by decide +kernel
theorem dX11_passesLonger_21 : decode cX11_passesLonger 21 = .ok (.getfield 27, 3) := by decide +kernel
theorem dX11_passesLonger_24 : decode cX11_passesLonger 24 = .ok (.aload_n 0, 1) := by decide +kernel
theorem dX11_passesLonger_25 : decode cX11_passesLonger 25 = .ok (.getfield 53, 3) := by decide +kernel
theorem dX11_passesLonger_28 : decode cX11_passesLonger 28 = .ok (.aload_n 0, 1) := by decide +kernel
theorem dX11_passesLonger_29 : decode cX11_passesLonger 29 = .ok (.getfield 34, 3) := by decide +kernel
theorem dX11_passesLonger_32 : decode cX11_passesLonger 32 = .ok (.invokevirtual 238, 3) := by decide +kernel
theorem dX11_passesLonger_35 : decode cX11_passesLonger 35 = .ok (.ireturn, 1) := by decide +kernel
theorem dX11_takeCheapest_0 : decode cX11_takeCheapest 0 = .ok (.aload_n 0, 1) := by decide +kernel
theorem dX11_takeCheapest_1 : decode cX11_takeCheapest 1 = .ok (.getfield 60, 3) := by decide +kernel
theorem dX11_takeCheapest_4 : decode cX11_takeCheapest 4 = .ok (.aload_n 0, 1) := by decide +kernel
theorem dX11_takeCheapest_5 : decode cX11_takeCheapest 5 = .ok (.getfield 27, 3) := by decide +kernel
theorem dX11_takeCheapest_8 : decode cX11_takeCheapest 8 = .ok (.invokevirtual 273, 3) := by decide +kernel
theorem dX11_takeCheapest_11 : decode cX11_takeCheapest 11 = .ok (.ifCond .eq 14, 3) := by decide +kernel
theorem dX11_takeCheapest_14 : decode cX11_takeCheapest 14 = .ok (.aload_n 0, 1) := by decide +kernel
theorem dX11_takeCheapest_15 : decode cX11_takeCheapest 15 = .ok (.getfield 60, 3) := by decide +kernel
theorem dX11_takeCheapest_18 : decode cX11_takeCheapest 18 = .ok (.getfield 277, 3) := by decide +kernel
theorem dX11_takeCheapest_21 : decode cX11_takeCheapest 21 = .ok (.iconst (-1), 1) := by decide +kernel
theorem dX11_takeCheapest_22 : decode cX11_takeCheapest 22 = .ok (.if_icmp .ne 5, 3) := by decide +kernel
theorem dX11_takeCheapest_25 : decode cX11_takeCheapest 25 = .ok (.iconst 0, 1) := by decide +kernel
theorem dX11_takeCheapest_26 : decode cX11_takeCheapest 26 = .ok (.ireturn, 1) := by decide +kernel
theorem dX11_takeCheapest_27 : decode cX11_takeCheapest 27 = .ok (.aload_n 0, 1) := by decide +kernel
theorem dX11_takeCheapest_28 : decode cX11_takeCheapest 28 = .ok (.getfield 27, 3) := by decide +kernel
theorem dX11_takeCheapest_31 : decode cX11_takeCheapest 31 = .ok (.aload_n 0, 1) := by decide +kernel
theorem dX11_takeCheapest_32 : decode cX11_takeCheapest 32 = .ok (.getfield 60, 3) := by decide +kernel
theorem dX11_takeCheapest_35 : decode cX11_takeCheapest 35 = .ok (.getfield 277, 3) := by decide +kernel
theorem dX11_takeCheapest_38 : decode cX11_takeCheapest 38 = .ok (.aload_n 0, 1) := by decide +kernel
theorem dX11_takeCheapest_39 : decode cX11_takeCheapest 39 = .ok (.getfield 34, 3) := by decide +kernel
theorem dX11_takeCheapest_42 : decode cX11_takeCheapest 42 = .ok (.invokestatic 283, 3) := by decide +kernel
theorem dX11_takeCheapest_45 : decode cX11_takeCheapest 45 = .ok (.iconst 1, 1) := by decide +kernel
theorem dX11_takeCheapest_46 : decode cX11_takeCheapest 46 = .ok (.ireturn, 1) := by decide +kernel
theorem dX11_takeSingle_0 : decode cX11_takeSingle 0 = .ok (.aload_n 0, 1) := by decide +kernel
theorem dX11_takeSingle_1 : decode cX11_takeSingle 1 = .ok (.getfield 27, 3) := by decide +kernel
theorem dX11_takeSingle_4 : decode cX11_takeSingle 4 = .ok (.invokevirtual 220, 3) := by decide +kernel
theorem dX11_takeSingle_7 : decode cX11_takeSingle 7 = .ok (.ifCond .ne 5, 3) := by decide +kernel
theorem dX11_takeSingle_10 : decode cX11_takeSingle 10 = .ok (.iconst 0, 1) := by decide +kernel
theorem dX11_takeSingle_11 : decode cX11_takeSingle 11 = .ok (.ireturn, 1) := by decide +kernel
theorem dX11_takeSingle_12 : decode cX11_takeSingle 12 = .ok (.aload_n 0, 1) := by decide +kernel
theorem dX11_takeSingle_13 : decode cX11_takeSingle 13 = .ok (.getfield 67, 3) := by decide +kernel
theorem dX11_takeSingle_16 : decode cX11_takeSingle 16 = .ok (.aload_n 0, 1) := by decide +kernel
theorem dX11_takeSingle_17 : decode cX11_takeSingle 17 = .ok (.getfield 27, 3) := by decide +kernel
theorem dX11_takeSingle_20 : decode cX11_takeSingle 20 = .ok (.aload_n 0, 1) := by decide +kernel
theorem dX11_takeSingle_21 : decode cX11_takeSingle 21 = .ok (.getfield 34, 3) := by decide +kernel
theorem dX11_takeSingle_24 : decode cX11_takeSingle 24 = .ok (.invokevirtual 301, 3) := by decide +kernel
theorem dX11_takeSingle_27 : decode cX11_takeSingle 27 = .ok (.aload_n 0, 1) := by decide +kernel
theorem dX11_takeSingle_28 : decode cX11_takeSingle 28 = .ok (.getfield 27, 3) := by decide +kernel
theorem dX11_takeSingle_31 : decode cX11_takeSingle 31 = .ok (.getfield 107, 3) := by decide +kernel
theorem dX11_takeSingle_34 : decode cX11_takeSingle 34 = .ok (.aload_n 0, 1) := by decide +kernel
theorem dX11_takeSingle_35 : decode cX11_takeSingle 35 = .ok (.getfield 67, 3) := by decide +kernel
theorem dX11_takeSingle_38 : decode cX11_takeSingle 38 = .ok (.getfield 311, 3) := by decide +kernel
theorem dX11_takeSingle_41 : decode cX11_takeSingle 41 = .ok (.invokevirtual 381, 3) := by decide +kernel
theorem dX11_takeSingle_44 : decode cX11_takeSingle 44 = .ok (.ifCond .ne 5, 3) := by decide +kernel
theorem dX11_takeSingle_47 : decode cX11_takeSingle 47 = .ok (.iconst 0, 1) := by decide +kernel
theorem dX11_takeSingle_48 : decode cX11_takeSingle 48 = .ok (.ireturn, 1) := by decide +kernel
theorem dX11_takeSingle_49 : decode cX11_takeSingle 49 = .ok (.aload_n 0, 1) := by decide +kernel
theorem dX11_takeSingle_50 : decode cX11_takeSingle 50 = .ok (.getfield 34, 3) := by decide +kernel
theorem dX11_takeSingle_53 : decode cX11_takeSingle 53 = .ok (.aload_n 0, 1) := by decide +kernel
theorem dX11_takeSingle_54 : decode cX11_takeSingle 54 = .ok (.getfield 67, 3) := by decide +kernel
theorem dX11_takeSingle_57 : decode cX11_takeSingle 57 = .ok (.getfield 311, 3) := by decide +kernel
theorem dX11_takeSingle_60 : decode cX11_takeSingle 60 = .ok (.aload_n 0, 1) := by decide +kernel
theorem dX11_takeSingle_61 : decode cX11_takeSingle 61 = .ok (.getfield 67, 3) := by decide +kernel
theorem dX11_takeSingle_64 : decode cX11_takeSingle 64 = .ok (.getfield 317, 3) := by decide +kernel
theorem dX11_takeSingle_67 : decode cX11_takeSingle 67 = .ok (.iastore, 1) := by decide +kernel
theorem dX11_takeSingle_68 : decode cX11_takeSingle 68 = .ok (.iconst 1, 1) := by decide +kernel
theorem dX11_takeSingle_69 : decode cX11_takeSingle 69 = .ok (.ireturn, 1) := by decide +kernel
theorem dX11_copyChoice_0 : decode cX11_copyChoice 0 = .ok (.iconst 0, 1) := by decide +kernel
theorem dX11_copyChoice_1 : decode cX11_copyChoice 1 = .ok (.istore_n 2, 1) := by decide +kernel
theorem dX11_copyChoice_2 : decode cX11_copyChoice 2 = .ok (.iload_n 2, 1) := by decide +kernel
theorem dX11_copyChoice_3 : decode cX11_copyChoice 3 = .ok (.bipush 14, 2) := by decide +kernel
theorem dX11_copyChoice_5 : decode cX11_copyChoice 5 = .ok (.if_icmp .ge 27, 3) := by decide +kernel
theorem dX11_copyChoice_8 : decode cX11_copyChoice 8 = .ok (.iload_n 2, 1) := by decide +kernel
theorem dX11_copyChoice_9 : decode cX11_copyChoice 9 = .ok (.aload_n 0, 1) := by decide +kernel
theorem dX11_copyChoice_10 : decode cX11_copyChoice 10 = .ok (.arraylength, 1) := by decide +kernel
theorem dX11_copyChoice_11 : decode cX11_copyChoice 11 = .ok (.if_icmp .ge 21, 3) := by decide +kernel
theorem dX11_copyChoice_14 : decode cX11_copyChoice 14 = .ok (.iload_n 2, 1) := by decide +kernel
theorem dX11_copyChoice_15 : decode cX11_copyChoice 15 = .ok (.aload_n 1, 1) := by decide +kernel
theorem dX11_copyChoice_16 : decode cX11_copyChoice 16 = .ok (.arraylength, 1) := by decide +kernel
theorem dX11_copyChoice_17 : decode cX11_copyChoice 17 = .ok (.if_icmp .ge 15, 3) := by decide +kernel
theorem dX11_copyChoice_20 : decode cX11_copyChoice 20 = .ok (.aload_n 1, 1) := by decide +kernel
theorem dX11_copyChoice_21 : decode cX11_copyChoice 21 = .ok (.iload_n 2, 1) := by decide +kernel
theorem dX11_copyChoice_22 : decode cX11_copyChoice 22 = .ok (.aload_n 0, 1) := by decide +kernel
theorem dX11_copyChoice_23 : decode cX11_copyChoice 23 = .ok (.iload_n 2, 1) := by decide +kernel
theorem dX11_copyChoice_24 : decode cX11_copyChoice 24 = .ok (.iaload, 1) := by decide +kernel
theorem dX11_copyChoice_25 : decode cX11_copyChoice 25 = .ok (.iastore, 1) := by decide +kernel
theorem dX11_copyChoice_26 : decode cX11_copyChoice 26 = .ok (.iinc 2 1, 3) := by decide +kernel
theorem dX11_copyChoice_29 : decode cX11_copyChoice 29 = .ok (.goto (-27), 3) := by decide +kernel
theorem dX11_copyChoice_32 : decode cX11_copyChoice 32 = .ok (.return_, 1) := by decide +kernel
theorem dX11_letterOf_0 : decode cX11_letterOf 0 = .ok (.iload_n 0, 1) := by decide +kernel
theorem dX11_letterOf_1 : decode cX11_letterOf 1 = .ok (.iconst 5, 1) := by decide +kernel
theorem dX11_letterOf_2 : decode cX11_letterOf 2 = .ok (.iconst 5, 1) := by decide +kernel
theorem dX11_letterOf_3 : decode cX11_letterOf 3 = .ok (.iload_n 1, 1) := by decide +kernel
theorem dX11_letterOf_4 : decode cX11_letterOf 4 = .ok (.isub, 1) := by decide +kernel
theorem dX11_letterOf_5 : decode cX11_letterOf 5 = .ok (.imul, 1) := by decide +kernel
theorem dX11_letterOf_6 : decode cX11_letterOf 6 = .ok (.ishr, 1) := by decide +kernel
theorem dX11_letterOf_7 : decode cX11_letterOf 7 = .ok (.bipush 31, 2) := by decide +kernel
theorem dX11_letterOf_9 : decode cX11_letterOf 9 = .ok (.iand, 1) := by decide +kernel
theorem dX11_letterOf_10 : decode cX11_letterOf 10 = .ok (.ireturn, 1) := by decide +kernel
theorem dX11_byteOf_0 : decode cX11_byteOf 0 = .ok (.lload_n 0, 1) := by decide +kernel
theorem dX11_byteOf_1 : decode cX11_byteOf 1 = .ok (.bipush 8, 2) := by decide +kernel
theorem dX11_byteOf_3 : decode cX11_byteOf 3 = .ok (.bipush 7, 2) := by decide +kernel
theorem dX11_byteOf_5 : decode cX11_byteOf 5 = .ok (.iload_n 2, 1) := by decide +kernel
theorem dX11_byteOf_6 : decode cX11_byteOf 6 = .ok (.isub, 1) := by decide +kernel
theorem dX11_byteOf_7 : decode cX11_byteOf 7 = .ok (.imul, 1) := by decide +kernel
theorem dX11_byteOf_8 : decode cX11_byteOf 8 = .ok (.lshr, 1) := by decide +kernel
theorem dX11_byteOf_9 : decode cX11_byteOf 9 = .ok (.ldc2_w 382, 3) := by decide +kernel
theorem dX11_byteOf_12 : decode cX11_byteOf 12 = .ok (.land, 1) := by decide +kernel
theorem dX11_byteOf_13 : decode cX11_byteOf 13 = .ok (.l2i, 1) := by decide +kernel
theorem dX11_byteOf_14 : decode cX11_byteOf 14 = .ok (.ireturn, 1) := by decide +kernel
theorem dX11_divides_0 : decode cX11_divides 0 = .ok (.lload_n 0, 1) := by decide +kernel
theorem dX11_divides_1 : decode cX11_divides 1 = .ok (.lconst 0, 1) := by decide +kernel
theorem dX11_divides_2 : decode cX11_divides 2 = .ok (.lcmp, 1) := by decide +kernel
theorem dX11_divides_3 : decode cX11_divides 3 = .ok (.ifCond .eq 15, 3) := by decide +kernel
theorem dX11_divides_6 : decode cX11_divides 6 = .ok (.lload_n 2, 1) := by decide +kernel
theorem dX11_divides_7 : decode cX11_divides 7 = .ok (.lload_n 0, 1) := by decide +kernel
theorem dX11_divides_8 : decode cX11_divides 8 = .ok (.lrem, 1) := by decide +kernel
theorem dX11_divides_9 : decode cX11_divides 9 = .ok (.lconst 0, 1) := by decide +kernel
theorem dX11_divides_10 : decode cX11_divides 10 = .ok (.lcmp, 1) := by decide +kernel
theorem dX11_divides_11 : decode cX11_divides 11 = .ok (.ifCond .ne 7, 3) := by decide +kernel
theorem dX11_divides_14 : decode cX11_divides 14 = .ok (.iconst 1, 1) := by decide +kernel
theorem dX11_divides_15 : decode cX11_divides 15 = .ok (.goto 4, 3) := by decide +kernel
theorem dX11_divides_18 : decode cX11_divides 18 = .ok (.iconst 0, 1) := by decide +kernel
theorem dX11_divides_19 : decode cX11_divides 19 = .ok (.ireturn, 1) := by decide +kernel
theorem dX11_nearest_0 : decode cX11_nearest 0 = .ok (.lload_n 2, 1) := by decide +kernel
theorem dX11_nearest_1 : decode cX11_nearest 1 = .ok (.lload 4, 2) := by decide +kernel
theorem dX11_nearest_3 : decode cX11_nearest 3 = .ok (.lmul, 1) := by decide +kernel
theorem dX11_nearest_4 : decode cX11_nearest 4 = .ok (.lstore 6, 2) := by decide +kernel
theorem dX11_nearest_6 : decode cX11_nearest 6 = .ok (.lload 6, 2) := by decide +kernel
theorem dX11_nearest_8 : decode cX11_nearest 8 = .ok (.lconst 1, 1) := by decide +kernel
theorem dX11_nearest_9 : decode cX11_nearest 9 = .ok (.lcmp, 1) := by decide +kernel
theorem dX11_nearest_10 : decode cX11_nearest 10 = .ok (.ifCond .ge 7, 3) := by decide +kernel
theorem dX11_nearest_13 : decode cX11_nearest 13 = .ok (.lconst 0, 1) := by decide +kernel
theorem dX11_nearest_14 : decode cX11_nearest 14 = .ok (.goto 23, 3) := by decide +kernel
theorem dX11_nearest_17 : decode cX11_nearest 17 = .ok (.ldc2_w 384, 3) := by decide +kernel
theorem dX11_nearest_20 : decode cX11_nearest 20 = .ok (.lload_n 0, 1) := by decide +kernel
theorem dX11_nearest_21 : decode cX11_nearest 21 = .ok (.lmul, 1) := by decide +kernel
theorem dX11_nearest_22 : decode cX11_nearest 22 = .ok (.lload 6, 2) := by decide +kernel
theorem dX11_nearest_24 : decode cX11_nearest 24 = .ok (.ladd, 1) := by decide +kernel
theorem dX11_nearest_25 : decode cX11_nearest 25 = .ok (.ldc2_w 384, 3) := by decide +kernel
theorem dX11_nearest_28 : decode cX11_nearest 28 = .ok (.lload 6, 2) := by decide +kernel
theorem dX11_nearest_30 : decode cX11_nearest 30 = .ok (.lmul, 1) := by decide +kernel
theorem dX11_nearest_31 : decode cX11_nearest 31 = .ok (.invokestatic 386, 3) := by decide +kernel
theorem dX11_nearest_34 : decode cX11_nearest 34 = .ok (.lload 4, 2) := by decide +kernel
theorem dX11_nearest_36 : decode cX11_nearest 36 = .ok (.lmul, 1) := by decide +kernel
theorem dX11_nearest_37 : decode cX11_nearest 37 = .ok (.lreturn, 1) := by decide +kernel
theorem dX11_apply_0 : decode cX11_apply 0 = .ok (.iload_n 0, 1) := by decide +kernel
theorem dX11_apply_1 : decode cX11_apply 1 = .ok (.tableswitch 67 1 5 #[35, 39, 43, 55, 61], 35) := by decide +kernel
theorem dX11_apply_36 : decode cX11_apply 36 = .ok (.lload_n 1, 1) := by decide +kernel
theorem dX11_apply_37 : decode cX11_apply 37 = .ok (.lload_n 3, 1) := by decide +kernel
theorem dX11_apply_38 : decode cX11_apply 38 = .ok (.ladd, 1) := by decide +kernel
theorem dX11_apply_39 : decode cX11_apply 39 = .ok (.lreturn, 1) := by decide +kernel
theorem dX11_apply_40 : decode cX11_apply 40 = .ok (.lload_n 1, 1) := by decide +kernel
theorem dX11_apply_41 : decode cX11_apply 41 = .ok (.lload_n 3, 1) := by decide +kernel
theorem dX11_apply_42 : decode cX11_apply 42 = .ok (.lsub, 1) := by decide +kernel
theorem dX11_apply_43 : decode cX11_apply 43 = .ok (.lreturn, 1) := by decide +kernel
theorem dX11_apply_44 : decode cX11_apply 44 = .ok (.lload_n 1, 1) := by decide +kernel
theorem dX11_apply_45 : decode cX11_apply 45 = .ok (.lload_n 3, 1) := by decide +kernel
theorem dX11_apply_46 : decode cX11_apply 46 = .ok (.lmul, 1) := by decide +kernel
theorem dX11_apply_47 : decode cX11_apply 47 = .ok (.ldc2_w 389, 3) := by decide +kernel
theorem dX11_apply_50 : decode cX11_apply 50 = .ok (.lload 5, 2) := by decide +kernel
theorem dX11_apply_52 : decode cX11_apply 52 = .ok (.invokestatic 391, 3) := by decide +kernel
theorem dX11_apply_55 : decode cX11_apply 55 = .ok (.lreturn, 1) := by decide +kernel
theorem dX11_apply_56 : decode cX11_apply 56 = .ok (.lload_n 1, 1) := by decide +kernel
theorem dX11_apply_57 : decode cX11_apply 57 = .ok (.lload_n 3, 1) := by decide +kernel
theorem dX11_apply_58 : decode cX11_apply 58 = .ok (.invokestatic 395, 3) := by decide +kernel
theorem dX11_apply_61 : decode cX11_apply 61 = .ok (.lreturn, 1) := by decide +kernel
theorem dX11_apply_62 : decode cX11_apply 62 = .ok (.lload_n 1, 1) := by decide +kernel
theorem dX11_apply_63 : decode cX11_apply 63 = .ok (.lload_n 3, 1) := by decide +kernel
theorem dX11_apply_64 : decode cX11_apply 64 = .ok (.invokestatic 373, 3) := by decide +kernel
theorem dX11_apply_67 : decode cX11_apply 67 = .ok (.lreturn, 1) := by decide +kernel
theorem dX11_apply_68 : decode cX11_apply 68 = .ok (.lload_n 1, 1) := by decide +kernel
theorem dX11_apply_69 : decode cX11_apply 69 = .ok (.lreturn, 1) := by decide +kernel
theorem dJ9_floorDiv_f86c9_0 : decode cJ9_floorDiv_f86c9 0 = .ok (.lload_n 0, 1) := by decide +kernel
theorem dJ9_floorDiv_f86c9_1 : decode cJ9_floorDiv_f86c9 1 = .ok (.lload_n 2, 1) := by decide +kernel
theorem dJ9_floorDiv_f86c9_2 : decode cJ9_floorDiv_f86c9 2 = .ok (.ldiv, 1) := by decide +kernel
theorem dJ9_floorDiv_f86c9_3 : decode cJ9_floorDiv_f86c9 3 = .ok (.lstore 4, 2) := by decide +kernel
theorem dJ9_floorDiv_f86c9_5 : decode cJ9_floorDiv_f86c9 5 = .ok (.lload_n 0, 1) := by decide +kernel
theorem dJ9_floorDiv_f86c9_6 : decode cJ9_floorDiv_f86c9 6 = .ok (.lload_n 2, 1) := by decide +kernel
theorem dJ9_floorDiv_f86c9_7 : decode cJ9_floorDiv_f86c9 7 = .ok (.lxor, 1) := by decide +kernel
theorem dJ9_floorDiv_f86c9_8 : decode cJ9_floorDiv_f86c9 8 = .ok (.lconst 0, 1) := by decide +kernel
theorem dJ9_floorDiv_f86c9_9 : decode cJ9_floorDiv_f86c9 9 = .ok (.lcmp, 1) := by decide +kernel
theorem dJ9_floorDiv_f86c9_10 : decode cJ9_floorDiv_f86c9 10 = .ok (.ifCond .ge 17, 3) := by decide +kernel
theorem dJ9_floorDiv_f86c9_13 : decode cJ9_floorDiv_f86c9 13 = .ok (.lload 4, 2) := by decide +kernel
theorem dJ9_floorDiv_f86c9_15 : decode cJ9_floorDiv_f86c9 15 = .ok (.lload_n 2, 1) := by decide +kernel
theorem dJ9_floorDiv_f86c9_16 : decode cJ9_floorDiv_f86c9 16 = .ok (.lmul, 1) := by decide +kernel
theorem dJ9_floorDiv_f86c9_17 : decode cJ9_floorDiv_f86c9 17 = .ok (.lload_n 0, 1) := by decide +kernel
theorem dJ9_floorDiv_f86c9_18 : decode cJ9_floorDiv_f86c9 18 = .ok (.lcmp, 1) := by decide +kernel
theorem dJ9_floorDiv_f86c9_19 : decode cJ9_floorDiv_f86c9 19 = .ok (.ifCond .eq 8, 3) := by decide +kernel
theorem dJ9_floorDiv_f86c9_22 : decode cJ9_floorDiv_f86c9 22 = .ok (.lload 4, 2) := by decide +kernel
theorem dJ9_floorDiv_f86c9_24 : decode cJ9_floorDiv_f86c9 24 = .ok (.lconst 1, 1) := by decide +kernel
theorem dJ9_floorDiv_f86c9_25 : decode cJ9_floorDiv_f86c9 25 = .ok (.lsub, 1) := by decide +kernel
theorem dJ9_floorDiv_f86c9_26 : decode cJ9_floorDiv_f86c9 26 = .ok (.lreturn, 1) := by decide +kernel
theorem dJ9_floorDiv_f86c9_27 : decode cJ9_floorDiv_f86c9 27 = .ok (.lload 4, 2) := by decide +kernel
theorem dJ9_floorDiv_f86c9_29 : decode cJ9_floorDiv_f86c9 29 = .ok (.lreturn, 1) := by decide +kernel
