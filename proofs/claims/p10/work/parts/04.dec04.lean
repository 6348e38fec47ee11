theorem dX11_take_46 : decode cX11_take 46 = .ok (.invokestatic 265, 3) := zDc_184 (by decide +kernel)
theorem dX11_take_49 : decode cX11_take 49 = .ok (.goto 13, 3) := zDc_167 (by decide +kernel)
theorem dX11_take_52 : decode cX11_take 52 = .ok (.iload_n 1, 1) := zDc_27 (by decide +kernel)
theorem dX11_take_53 : decode cX11_take 53 = .ok (.iconst 2, 1) := zDc_5 (by decide +kernel)
theorem dX11_take_54 : decode cX11_take 54 = .ok (.if_icmp .ne 8, 3) := zDc_160 (by decide +kernel)
theorem dX11_take_57 : decode cX11_take 57 = .ok (.aload_n 0, 1) := zDc_42 (by decide +kernel)
theorem dX11_take_58 : decode cX11_take 58 = .ok (.invokevirtual 323, 3) := zDc_182 (by decide +kernel)
theorem dX11_take_61 : decode cX11_take 61 = .ok (.istore_n 2, 1) := zDc_61 (by decide +kernel)
theorem dX11_take_62 : decode cX11_take 62 = .ok (.iload_n 2, 1) := zDc_28 (by decide +kernel)
theorem dX11_take_63 : decode cX11_take 63 = .ok (.ifCond .eq 17, 3) := zDc_153 (by decide +kernel)
theorem dX11_take_66 : decode cX11_take 66 = .ok (.aload_n 0, 1) := zDc_42 (by decide +kernel)
theorem dX11_take_67 : decode cX11_take 67 = .ok (.getfield 27, 3) := zDc_180 (by decide +kernel)
theorem dX11_take_70 : decode cX11_take 70 = .ok (.aload_n 0, 1) := zDc_42 (by decide +kernel)
theorem dX11_take_71 : decode cX11_take 71 = .ok (.getfield 34, 3) := zDc_180 (by decide +kernel)
theorem dX11_take_74 : decode cX11_take 74 = .ok (.invokevirtual 231, 3) := zDc_182 (by decide +kernel)
theorem dX11_take_77 : decode cX11_take 77 = .ok (.goto 8, 3) := zDc_167 (by decide +kernel)
theorem dX11_take_80 : decode cX11_take 80 = .ok (.aload_n 0, 1) := zDc_42 (by decide +kernel)
theorem dX11_take_81 : decode cX11_take 81 = .ok (.iconst 2, 1) := zDc_5 (by decide +kernel)
theorem dX11_take_82 : decode cX11_take 82 = .ok (.invokevirtual 92, 3) := zDc_182 (by decide +kernel)
theorem dX11_take_85 : decode cX11_take 85 = .ok (.ireturn, 1) := zDc_172 (by decide +kernel)
theorem dX11_front_0 : decode cX11_front 0 = .ok (.aload_n 0, 1) := zDc_42 (by decide +kernel)
theorem dX11_front_1 : decode cX11_front 1 = .ok (.getfield 27, 3) := zDc_180 (by decide +kernel)
theorem dX11_front_4 : decode cX11_front 4 = .ok (.iload_n 1, 1) := zDc_27 (by decide +kernel)
theorem dX11_front_5 : decode cX11_front 5 = .ok (.invokevirtual 251, 3) := zDc_182 (by decide +kernel)
theorem dX11_front_8 : decode cX11_front 8 = .ok (.ifCond .eq 17, 3) := zDc_153 (by decide +kernel)
theorem dX11_front_11 : decode cX11_front 11 = .ok (.aload_n 0, 1) := zDc_42 (by decide +kernel)
theorem dX11_front_12 : decode cX11_front 12 = .ok (.getfield 60, 3) := zDc_180 (by decide +kernel)
theorem dX11_front_15 : decode cX11_front 15 = .ok (.aload_n 0, 1) := zDc_42 (by decide +kernel)
theorem dX11_front_16 : decode cX11_front 16 = .ok (.getfield 27, 3) := zDc_180 (by decide +kernel)
theorem dX11_front_19 : decode cX11_front 19 = .ok (.invokevirtual 273, 3) := zDc_182 (by decide +kernel)
theorem dX11_front_22 : decode cX11_front 22 = .ok (.ifCond .ne 7, 3) := zDc_154 (by decide +kernel)
theorem dX11_front_25 : decode cX11_front 25 = .ok (.ldc2_w 194, 3) := zDc_20 (by decide +kernel)
theorem dX11_front_28 : decode cX11_front 28 = .ok (.lreturn, 1) := zDc_173 (by decide +kernel)
theorem dX11_front_29 : decode cX11_front 29 = .ok (.aload_n 0, 1) := zDc_42 (by decide +kernel)
theorem dX11_front_30 : decode cX11_front 30 = .ok (.getfield 60, 3) := zDc_180 (by decide +kernel)
theorem dX11_front_33 : decode cX11_front 33 = .ok (.aload_n 0, 1) := zDc_42 (by decide +kernel)
theorem dX11_front_34 : decode cX11_front 34 = .ok (.getfield 27, 3) := zDc_180 (by decide +kernel)
theorem dX11_front_37 : decode cX11_front 37 = .ok (.iload_n 1, 1) := zDc_27 (by decide +kernel)
theorem dX11_front_38 : decode cX11_front 38 = .ok (.invokevirtual 326, 3) := zDc_182 (by decide +kernel)
theorem dX11_front_41 : decode cX11_front 41 = .ok (.iload_n 2, 1) := zDc_28 (by decide +kernel)
theorem dX11_front_42 : decode cX11_front 42 = .ok (.iconst (-1), 1) := zDc_2 (by decide +kernel)
theorem dX11_front_43 : decode cX11_front 43 = .ok (.if_icmp .ne 22, 3) := zDc_160 (by decide +kernel)
theorem dX11_front_46 : decode cX11_front 46 = .ok (.iload_n 3, 1) := zDc_29 (by decide +kernel)
theorem dX11_front_47 : decode cX11_front 47 = .ok (.ifCond .ne 14, 3) := zDc_154 (by decide +kernel)
theorem dX11_front_50 : decode cX11_front 50 = .ok (.aload_n 0, 1) := zDc_42 (by decide +kernel)
theorem dX11_front_51 : decode cX11_front 51 = .ok (.getfield 60, 3) := zDc_180 (by decide +kernel)
theorem dX11_front_54 : decode cX11_front 54 = .ok (.getfield 330, 3) := zDc_180 (by decide +kernel)
theorem dX11_front_57 : decode cX11_front 57 = .ok (.i2l, 1) := zDc_133 (by decide +kernel)
theorem dX11_front_58 : decode cX11_front 58 = .ok (.goto 6, 3) := zDc_167 (by decide +kernel)
theorem dX11_front_61 : decode cX11_front 61 = .ok (.ldc2_w 194, 3) := zDc_20 (by decide +kernel)
theorem dX11_front_64 : decode cX11_front 64 = .ok (.lreturn, 1) := zDc_173 (by decide +kernel)
theorem dX11_front_65 : decode cX11_front 65 = .ok (.iload_n 2, 1) := zDc_28 (by decide +kernel)
theorem dX11_front_66 : decode cX11_front 66 = .ok (.ifCond .lt 14, 3) := zDc_155 (by decide +kernel)
theorem dX11_front_69 : decode cX11_front 69 = .ok (.iload_n 2, 1) := zDc_28 (by decide +kernel)
theorem dX11_front_70 : decode cX11_front 70 = .ok (.aload_n 0, 1) := zDc_42 (by decide +kernel)
theorem dX11_front_71 : decode cX11_front 71 = .ok (.getfield 60, 3) := zDc_180 (by decide +kernel)
theorem dX11_front_74 : decode cX11_front 74 = .ok (.getfield 330, 3) := zDc_180 (by decide +kernel)
theorem dX11_front_77 : decode cX11_front 77 = .ok (.if_icmp .lt 7, 3) := zDc_161 (by decide +kernel)
theorem dX11_front_80 : decode cX11_front 80 = .ok (.ldc2_w 194, 3) := zDc_20 (by decide +kernel)
theorem dX11_front_83 : decode cX11_front 83 = .ok (.lreturn, 1) := zDc_173 (by decide +kernel)
theorem dX11_front_84 : decode cX11_front 84 = .ok (.iload_n 3, 1) := zDc_29 (by decide +kernel)
theorem dX11_front_85 : decode cX11_front 85 = .ok (.tableswitch 60 0 2 #[27, 38, 49], 27) := by decide +kernel
theorem dX11_front_112 : decode cX11_front 112 = .ok (.aload_n 0, 1) := zDc_42 (by decide +kernel)
theorem dX11_front_113 : decode cX11_front 113 = .ok (.getfield 60, 3) := zDc_180 (by decide +kernel)
theorem dX11_front_116 : decode cX11_front 116 = .ok (.getfield 333, 3) := zDc_180 (by decide +kernel)
theorem dX11_front_119 : decode cX11_front 119 = .ok (.iload_n 2, 1) := zDc_28 (by decide +kernel)
theorem dX11_front_120 : decode cX11_front 120 = .ok (.iaload, 1) := zDc_46 (by decide +kernel)
theorem dX11_front_121 : decode cX11_front 121 = .ok (.i2l, 1) := zDc_133 (by decide +kernel)
theorem dX11_front_122 : decode cX11_front 122 = .ok (.lreturn, 1) := zDc_173 (by decide +kernel)
theorem dX11_front_123 : decode cX11_front 123 = .ok (.aload_n 0, 1) := zDc_42 (by decide +kernel)
theorem dX11_front_124 : decode cX11_front 124 = .ok (.getfield 60, 3) := zDc_180 (by decide +kernel)
theorem dX11_front_127 : decode cX11_front 127 = .ok (.getfield 336, 3) := zDc_180 (by decide +kernel)
theorem dX11_front_130 : decode cX11_front 130 = .ok (.iload_n 2, 1) := zDc_28 (by decide +kernel)
theorem dX11_front_131 : decode cX11_front 131 = .ok (.iaload, 1) := zDc_46 (by decide +kernel)
theorem dX11_front_132 : decode cX11_front 132 = .ok (.i2l, 1) := zDc_133 (by decide +kernel)
theorem dX11_front_133 : decode cX11_front 133 = .ok (.lreturn, 1) := zDc_173 (by decide +kernel)
theorem dX11_front_134 : decode cX11_front 134 = .ok (.aload_n 0, 1) := zDc_42 (by decide +kernel)
theorem dX11_front_135 : decode cX11_front 135 = .ok (.getfield 60, 3) := zDc_180 (by decide +kernel)
theorem dX11_front_138 : decode cX11_front 138 = .ok (.getfield 339, 3) := zDc_180 (by decide +kernel)
theorem dX11_front_141 : decode cX11_front 141 = .ok (.iload_n 2, 1) := zDc_28 (by decide +kernel)
theorem dX11_front_142 : decode cX11_front 142 = .ok (.iaload, 1) := zDc_46 (by decide +kernel)
theorem dX11_front_143 : decode cX11_front 143 = .ok (.i2l, 1) := zDc_133 (by decide +kernel)
theorem dX11_front_144 : decode cX11_front 144 = .ok (.lreturn, 1) := zDc_173 (by decide +kernel)
theorem dX11_front_145 : decode cX11_front 145 = .ok (.ldc2_w 194, 3) := zDc_20 (by decide +kernel)
theorem dX11_front_148 : decode cX11_front 148 = .ok (.lreturn, 1) := zDc_173 (by decide +kernel)
theorem dX11_least_0 : decode cX11_least 0 = .ok (.aload_n 0, 1) := zDc_42 (by decide +kernel)
theorem dX11_least_1 : decode cX11_least 1 = .ok (.getfield 27, 3) := zDc_180 (by decide +kernel)
theorem dX11_least_4 : decode cX11_least 4 = .ok (.iload_n 1, 1) := zDc_27 (by decide +kernel)
theorem dX11_least_5 : decode cX11_least 5 = .ok (.invokevirtual 251, 3) := zDc_182 (by decide +kernel)
theorem dX11_least_8 : decode cX11_least 8 = .ok (.ifCond .eq 17, 3) := zDc_153 (by decide +kernel)
theorem dX11_least_11 : decode cX11_least 11 = .ok (.aload_n 0, 1) := zDc_42 (by decide +kernel)
theorem dX11_least_12 : decode cX11_least 12 = .ok (.getfield 60, 3) := zDc_180 (by decide +kernel)
theorem dX11_least_15 : decode cX11_least 15 = .ok (.aload_n 0, 1) := zDc_42 (by decide +kernel)
theorem dX11_least_16 : decode cX11_least 16 = .ok (.getfield 27, 3) := zDc_180 (by decide +kernel)
theorem dX11_least_19 : decode cX11_least 19 = .ok (.invokevirtual 273, 3) := zDc_182 (by decide +kernel)
theorem dX11_least_22 : decode cX11_least 22 = .ok (.ifCond .ne 7, 3) := zDc_154 (by decide +kernel)
theorem dX11_least_25 : decode cX11_least 25 = .ok (.ldc2_w 194, 3) := zDc_20 (by decide +kernel)
theorem dX11_least_28 : decode cX11_least 28 = .ok (.lreturn, 1) := zDc_173 (by decide +kernel)
theorem dX11_least_29 : decode cX11_least 29 = .ok (.aload_n 0, 1) := zDc_42 (by decide +kernel)
theorem dX11_least_30 : decode cX11_least 30 = .ok (.getfield 60, 3) := zDc_180 (by decide +kernel)
theorem dX11_least_33 : decode cX11_least 33 = .ok (.aload_n 0, 1) := zDc_42 (by decide +kernel)
theorem dX11_least_34 : decode cX11_least 34 = .ok (.getfield 27, 3) := zDc_180 (by decide +kernel)
theorem dX11_least_37 : decode cX11_least 37 = .ok (.iload_n 1, 1) := zDc_27 (by decide +kernel)
theorem dX11_least_38 : decode cX11_least 38 = .ok (.iload_n 2, 1) := zDc_28 (by decide +kernel)
theorem dX11_least_39 : decode cX11_least 39 = .ok (.invokevirtual 342, 3) := zDc_182 (by decide +kernel)
theorem dX11_least_42 : decode cX11_least 42 = .ok (.lreturn, 1) := zDc_173 (by decide +kernel)
theorem dX11_certificate_0 : decode cX11_certificate 0 = .ok (.iload_n 1, 1) := zDc_27 (by decide +kernel)
theorem dX11_certificate_1 : decode cX11_certificate 1 = .ok (.ifCond .lt 27, 3) := zDc_155 (by decide +kernel)
theorem dX11_certificate_4 : decode cX11_certificate 4 = .ok (.iload_n 1, 1) := zDc_27 (by decide +kernel)
theorem dX11_certificate_5 : decode cX11_certificate 5 = .ok (.bipush 25, 2) := zDc_16 (by decide +kernel)
theorem dX11_certificate_7 : decode cX11_certificate 7 = .ok (.aload_n 0, 1) := zDc_42 (by decide +kernel)
theorem dX11_certificate_8 : decode cX11_certificate 8 = .ok (.getfield 27, 3) := zDc_180 (by decide +kernel)
theorem dX11_certificate_11 : decode cX11_certificate 11 = .ok (.getfield 122, 3) := zDc_180 (by decide +kernel)
theorem dX11_certificate_14 : decode cX11_certificate 14 = .ok (.getfield 126, 3) := zDc_180 (by decide +kernel)
theorem dX11_certificate_17 : decode cX11_certificate 17 = .ok (.imul, 1) := zDc_104 (by decide +kernel)
theorem dX11_certificate_18 : decode cX11_certificate 18 = .ok (.if_icmp .ge 10, 3) := zDc_162 (by decide +kernel)
theorem dX11_certificate_21 : decode cX11_certificate 21 = .ok (.aload_n 0, 1) := zDc_42 (by decide +kernel)
theorem dX11_certificate_22 : decode cX11_certificate 22 = .ok (.invokevirtual 254, 3) := zDc_182 (by decide +kernel)
theorem dX11_certificate_25 : decode cX11_certificate 25 = .ok (.ifCond .ne 5, 3) := zDc_154 (by decide +kernel)
theorem dX11_certificate_28 : decode cX11_certificate 28 = .ok (.iconst (-1), 1) := zDc_2 (by decide +kernel)
theorem dX11_certificate_29 : decode cX11_certificate 29 = .ok (.ireturn, 1) := zDc_172 (by decide +kernel)
theorem dX11_certificate_30 : decode cX11_certificate 30 = .ok (.iload_n 1, 1) := zDc_27 (by decide +kernel)
theorem dX11_certificate_31 : decode cX11_certificate 31 = .ok (.bipush 25, 2) := zDc_16 (by decide +kernel)
theorem dX11_certificate_33 : decode cX11_certificate 33 = .ok (.idiv, 1) := zDc_108 (by decide +kernel)
theorem dX11_certificate_34 : decode cX11_certificate 34 = .ok (.istore_n 2, 1) := zDc_61 (by decide +kernel)
theorem dX11_certificate_35 : decode cX11_certificate 35 = .ok (.iload_n 1, 1) := zDc_27 (by decide +kernel)
theorem dX11_certificate_36 : decode cX11_certificate 36 = .ok (.bipush 25, 2) := zDc_16 (by decide +kernel)
theorem dX11_certificate_38 : decode cX11_certificate 38 = .ok (.irem, 1) := zDc_112 (by decide +kernel)
theorem dX11_certificate_39 : decode cX11_certificate 39 = .ok (.istore_n 3, 1) := zDc_62 (by decide +kernel)
theorem dX11_certificate_40 : decode cX11_certificate 40 = .ok (.iload_n 3, 1) := zDc_29 (by decide +kernel)
theorem dX11_certificate_41 : decode cX11_certificate 41 = .ok (.ifCond .ne 16, 3) := zDc_154 (by decide +kernel)
theorem dX11_certificate_44 : decode cX11_certificate 44 = .ok (.aload_n 0, 1) := zDc_42 (by decide +kernel)
theorem dX11_certificate_45 : decode cX11_certificate 45 = .ok (.getfield 27, 3) := zDc_180 (by decide +kernel)
theorem dX11_certificate_48 : decode cX11_certificate 48 = .ok (.aload_n 0, 1) := zDc_42 (by decide +kernel)
theorem dX11_certificate_49 : decode cX11_certificate 49 = .ok (.getfield 34, 3) := zDc_180 (by decide +kernel)
theorem dX11_certificate_52 : decode cX11_certificate 52 = .ok (.iload_n 2, 1) := zDc_28 (by decide +kernel)
theorem dX11_certificate_53 : decode cX11_certificate 53 = .ok (.invokevirtual 224, 3) := zDc_182 (by decide +kernel)
theorem dX11_certificate_56 : decode cX11_certificate 56 = .ok (.ireturn, 1) := zDc_172 (by decide +kernel)
theorem dX11_certificate_57 : decode cX11_certificate 57 = .ok (.iload_n 3, 1) := zDc_29 (by decide +kernel)
theorem dX11_certificate_58 : decode cX11_certificate 58 = .ok (.bipush 8, 2) := zDc_16 (by decide +kernel)
theorem dX11_certificate_60 : decode cX11_certificate 60 = .ok (.if_icmp .gt 22, 3) := zDc_163 (by decide +kernel)
theorem dX11_certificate_63 : decode cX11_certificate 63 = .ok (.aload_n 0, 1) := zDc_42 (by decide +kernel)
theorem dX11_certificate_64 : decode cX11_certificate 64 = .ok (.getfield 27, 3) := zDc_180 (by decide +kernel)
theorem dX11_certificate_67 : decode cX11_certificate 67 = .ok (.getfield 200, 3) := zDc_180 (by decide +kernel)
theorem dX11_certificate_70 : decode cX11_certificate 70 = .ok (.getfield 211, 3) := zDc_180 (by decide +kernel)
theorem dX11_certificate_73 : decode cX11_certificate 73 = .ok (.iload_n 2, 1) := zDc_28 (by decide +kernel)
theorem dX11_certificate_74 : decode cX11_certificate 74 = .ok (.laload, 1) := zDc_47 (by decide +kernel)
theorem dX11_certificate_75 : decode cX11_certificate 75 = .ok (.iload_n 3, 1) := zDc_29 (by decide +kernel)
theorem dX11_certificate_76 : decode cX11_certificate 76 = .ok (.iconst 1, 1) := zDc_4 (by decide +kernel)
theorem dX11_certificate_77 : decode cX11_certificate 77 = .ok (.isub, 1) := zDc_100 (by decide +kernel)
theorem dX11_certificate_78 : decode cX11_certificate 78 = .ok (.invokestatic 346, 3) := zDc_184 (by decide +kernel)
theorem dX11_certificate_81 : decode cX11_certificate 81 = .ok (.ireturn, 1) := zDc_172 (by decide +kernel)
theorem dX11_certificate_82 : decode cX11_certificate 82 = .ok (.iload_n 3, 1) := zDc_29 (by decide +kernel)
theorem dX11_certificate_83 : decode cX11_certificate 83 = .ok (.bipush 16, 2) := zDc_16 (by decide +kernel)
theorem dX11_certificate_85 : decode cX11_certificate 85 = .ok (.if_icmp .gt 23, 3) := zDc_163 (by decide +kernel)
theorem dX11_certificate_88 : decode cX11_certificate 88 = .ok (.aload_n 0, 1) := zDc_42 (by decide +kernel)
theorem dX11_certificate_89 : decode cX11_certificate 89 = .ok (.getfield 27, 3) := zDc_180 (by decide +kernel)
theorem dX11_certificate_92 : decode cX11_certificate 92 = .ok (.getfield 200, 3) := zDc_180 (by decide +kernel)
theorem dX11_certificate_95 : decode cX11_certificate 95 = .ok (.getfield 207, 3) := zDc_180 (by decide +kernel)
theorem dX11_certificate_98 : decode cX11_certificate 98 = .ok (.iload_n 2, 1) := zDc_28 (by decide +kernel)
theorem dX11_certificate_99 : decode cX11_certificate 99 = .ok (.laload, 1) := zDc_47 (by decide +kernel)
theorem dX11_certificate_100 : decode cX11_certificate 100 = .ok (.iload_n 3, 1) := zDc_29 (by decide +kernel)
theorem dX11_certificate_101 : decode cX11_certificate 101 = .ok (.bipush 9, 2) := zDc_16 (by decide +kernel)
theorem dX11_certificate_103 : decode cX11_certificate 103 = .ok (.isub, 1) := zDc_100 (by decide +kernel)
theorem dX11_certificate_104 : decode cX11_certificate 104 = .ok (.invokestatic 346, 3) := zDc_184 (by decide +kernel)
theorem dX11_certificate_107 : decode cX11_certificate 107 = .ok (.ireturn, 1) := zDc_172 (by decide +kernel)
theorem dX11_certificate_108 : decode cX11_certificate 108 = .ok (.aload_n 0, 1) := zDc_42 (by decide +kernel)
theorem dX11_certificate_109 : decode cX11_certificate 109 = .ok (.getfield 43, 3) := zDc_180 (by decide +kernel)
theorem dX11_certificate_112 : decode cX11_certificate 112 = .ok (.getfield 248, 3) := zDc_180 (by decide +kernel)
theorem dX11_certificate_115 : decode cX11_certificate 115 = .ok (.iload_n 2, 1) := zDc_28 (by decide +kernel)
theorem dX11_certificate_116 : decode cX11_certificate 116 = .ok (.laload, 1) := zDc_47 (by decide +kernel)
theorem dX11_certificate_117 : decode cX11_certificate 117 = .ok (.iload_n 3, 1) := zDc_29 (by decide +kernel)
theorem dX11_certificate_118 : decode cX11_certificate 118 = .ok (.bipush 17, 2) := zDc_16 (by decide +kernel)
theorem dX11_certificate_120 : decode cX11_certificate 120 = .ok (.isub, 1) := zDc_100 (by decide +kernel)
theorem dX11_certificate_121 : decode cX11_certificate 121 = .ok (.invokestatic 346, 3) := zDc_184 (by decide +kernel)
theorem dX11_certificate_124 : decode cX11_certificate 124 = .ok (.ireturn, 1) := zDc_172 (by decide +kernel)
theorem dX11_check_0 : decode cX11_check 0 = .ok (.aload_n 0, 1) := zDc_42 (by decide +kernel)
theorem dX11_check_1 : decode cX11_check 1 = .ok (.getfield 89, 3) := zDc_180 (by decide +kernel)
theorem dX11_check_4 : decode cX11_check 4 = .ok (.istore_n 1, 1) := zDc_60 (by decide +kernel)
theorem dX11_check_5 : decode cX11_check 5 = .ok (.aload_n 0, 1) := zDc_42 (by decide +kernel)
theorem dX11_check_6 : decode cX11_check 6 = .ok (.iconst 0, 1) := zDc_3 (by decide +kernel)
theorem dX11_check_7 : decode cX11_check 7 = .ok (.putfield 89, 3) := zDc_181 (by decide +kernel)
theorem dX11_check_10 : decode cX11_check 10 = .ok (.aload_n 0, 1) := zDc_42 (by decide +kernel)
theorem dX11_check_11 : decode cX11_check 11 = .ok (.getfield 74, 3) := zDc_180 (by decide +kernel)
theorem dX11_check_14 : decode cX11_check 14 = .ok (.aload_n 0, 1) := zDc_42 (by decide +kernel)
theorem dX11_check_15 : decode cX11_check 15 = .ok (.getfield 9, 3) := zDc_180 (by decide +kernel)
theorem dX11_check_18 : decode cX11_check 18 = .ok (.iload_n 1, 1) := zDc_27 (by decide +kernel)
theorem dX11_check_19 : decode cX11_check 19 = .ok (.aload_n 0, 1) := zDc_42 (by decide +kernel)
theorem dX11_check_20 : decode cX11_check 20 = .ok (.getfield 27, 3) := zDc_180 (by decide +kernel)
theorem dX11_check_23 : decode cX11_check 23 = .ok (.invokevirtual 350, 3) := zDc_182 (by decide +kernel)
theorem dX11_check_26 : decode cX11_check 26 = .ok (.ifCond .ne 11, 3) := zDc_154 (by decide +kernel)
theorem dX11_check_29 : decode cX11_check 29 = .ok (.aload_n 0, 1) := zDc_42 (by decide +kernel)
theorem dX11_check_30 : decode cX11_check 30 = .ok (.iconst 3, 1) := zDc_6 (by decide +kernel)
theorem dX11_check_31 : decode cX11_check 31 = .ok (.invokevirtual 92, 3) := zDc_182 (by decide +kernel)
theorem dX11_check_34 : decode cX11_check 34 = .ok (.pop, 1) := zDc_87 (by decide +kernel)
theorem dX11_check_35 : decode cX11_check 35 = .ok (.iconst 0, 1) := zDc_3 (by decide +kernel)
theorem dX11_check_36 : decode cX11_check 36 = .ok (.ireturn, 1) := zDc_172 (by decide +kernel)
theorem dX11_check_37 : decode cX11_check 37 = .ok (.iconst 1, 1) := zDc_4 (by decide +kernel)
theorem dX11_check_38 : decode cX11_check 38 = .ok (.ireturn, 1) := zDc_172 (by decide +kernel)
theorem dX11_broken_0 : decode cX11_broken 0 = .ok (.iload_n 1, 1) := zDc_27 (by decide +kernel)
theorem dX11_broken_1 : decode cX11_broken 1 = .ok (.ifCond .ne 11, 3) := zDc_154 (by decide +kernel)
theorem dX11_broken_4 : decode cX11_broken 4 = .ok (.aload_n 0, 1) := zDc_42 (by decide +kernel)
theorem dX11_broken_5 : decode cX11_broken 5 = .ok (.getfield 74, 3) := zDc_180 (by decide +kernel)
theorem dX11_broken_8 : decode cX11_broken 8 = .ok (.getfield 353, 3) := zDc_180 (by decide +kernel)
theorem dX11_broken_11 : decode cX11_broken 11 = .ok (.ireturn, 1) := zDc_172 (by decide +kernel)
theorem dX11_broken_12 : decode cX11_broken 12 = .ok (.iload_n 1, 1) := zDc_27 (by decide +kernel)
theorem dX11_broken_13 : decode cX11_broken 13 = .ok (.iconst 1, 1) := zDc_4 (by decide +kernel)
theorem dX11_broken_14 : decode cX11_broken 14 = .ok (.if_icmp .ne 13, 3) := zDc_160 (by decide +kernel)
theorem dX11_broken_17 : decode cX11_broken 17 = .ok (.aload_n 0, 1) := zDc_42 (by decide +kernel)
theorem dX11_broken_18 : decode cX11_broken 18 = .ok (.getfield 74, 3) := zDc_180 (by decide +kernel)
theorem dX11_broken_21 : decode cX11_broken 21 = .ok (.getfield 356, 3) := zDc_180 (by decide +kernel)
theorem dX11_broken_24 : decode cX11_broken 24 = .ok (.goto 4, 3) := zDc_167 (by decide +kernel)
theorem dX11_broken_27 : decode cX11_broken 27 = .ok (.iconst (-1), 1) := zDc_2 (by decide +kernel)
theorem dX11_broken_28 : decode cX11_broken 28 = .ok (.ireturn, 1) := zDc_172 (by decide +kernel)
theorem dX11_trials_0 : decode cX11_trials 0 = .ok (.iload_n 1, 1) := zDc_27 (by decide +kernel)
theorem dX11_trials_1 : decode cX11_trials 1 = .ok (.iconst 1, 1) := zDc_4 (by decide +kernel)
theorem dX11_trials_2 : decode cX11_trials 2 = .ok (.if_icmp .lt 27, 3) := zDc_161 (by decide +kernel)
theorem dX11_trials_5 : decode cX11_trials 5 = .ok (.iload_n 1, 1) := zDc_27 (by decide +kernel)
theorem dX11_trials_6 : decode cX11_trials 6 = .ok (.bipush 40, 2) := zDc_16 (by decide +kernel)
theorem dX11_trials_8 : decode cX11_trials 8 = .ok (.if_icmp .gt 21, 3) := zDc_163 (by decide +kernel)
theorem dX11_trials_11 : decode cX11_trials 11 = .ok (.aload_n 0, 1) := zDc_42 (by decide +kernel)
theorem dX11_trials_12 : decode cX11_trials 12 = .ok (.getfield 27, 3) := zDc_180 (by decide +kernel)
theorem dX11_trials_15 : decode cX11_trials 15 = .ok (.iload_n 2, 1) := zDc_28 (by decide +kernel)
theorem dX11_trials_16 : decode cX11_trials 16 = .ok (.invokevirtual 157, 3) := zDc_182 (by decide +kernel)
theorem dX11_trials_19 : decode cX11_trials 19 = .ok (.ifCond .eq 10, 3) := zDc_153 (by decide +kernel)
theorem dX11_trials_22 : decode cX11_trials 22 = .ok (.aload_n 0, 1) := zDc_42 (by decide +kernel)
theorem dX11_trials_23 : decode cX11_trials 23 = .ok (.invokevirtual 254, 3) := zDc_182 (by decide +kernel)
theorem dX11_trials_26 : decode cX11_trials 26 = .ok (.ifCond .ne 10, 3) := zDc_154 (by decide +kernel)
theorem dX11_trials_29 : decode cX11_trials 29 = .ok (.aload_n 0, 1) := zDc_42 (by decide +kernel)
theorem dX11_trials_30 : decode cX11_trials 30 = .ok (.iconst 4, 1) := zDc_7 (by decide +kernel)
theorem dX11_trials_31 : decode cX11_trials 31 = .ok (.invokevirtual 92, 3) := zDc_182 (by decide +kernel)
theorem dX11_trials_34 : decode cX11_trials 34 = .ok (.i2l, 1) := zDc_133 (by decide +kernel)
theorem dX11_trials_35 : decode cX11_trials 35 = .ok (.lreturn, 1) := zDc_173 (by decide +kernel)
theorem dX11_trials_36 : decode cX11_trials 36 = .ok (.lconst 0, 1) := zDc_9 (by decide +kernel)
theorem dX11_trials_37 : decode cX11_trials 37 = .ok (.lstore_n 3, 1) := zDc_66 (by decide +kernel)
theorem dX11_trials_38 : decode cX11_trials 38 = .ok (.iconst 0, 1) := zDc_3 (by decide +kernel)
theorem dX11_trials_39 : decode cX11_trials 39 = .ok (.istore 5, 2) := zDc_54 (by decide +kernel)
theorem dX11_trials_41 : decode cX11_trials 41 = .ok (.iload 5, 2) := zDc_21 (by decide +kernel)
theorem dX11_trials_43 : decode cX11_trials 43 = .ok (.iload_n 1, 1) := zDc_27 (by decide +kernel)
theorem dX11_trials_44 : decode cX11_trials 44 = .ok (.if_icmp .ge 59, 3) := zDc_162 (by decide +kernel)
theorem dX11_trials_47 : decode cX11_trials 47 = .ok (.aload_n 0, 1) := zDc_42 (by decide +kernel)
theorem dX11_trials_48 : decode cX11_trials 48 = .ok (.aload_n 0, 1) := zDc_42 (by decide +kernel)
theorem dX11_trials_49 : decode cX11_trials 49 = .ok (.getfield 81, 3) := zDc_180 (by decide +kernel)
theorem dX11_trials_52 : decode cX11_trials 52 = .ok (.aload_n 0, 1) := zDc_42 (by decide +kernel)
theorem dX11_trials_53 : decode cX11_trials 53 = .ok (.getfield 27, 3) := zDc_180 (by decide +kernel)
theorem dX11_trials_56 : decode cX11_trials 56 = .ok (.aload_n 0, 1) := zDc_42 (by decide +kernel)
theorem dX11_trials_57 : decode cX11_trials 57 = .ok (.getfield 34, 3) := zDc_180 (by decide +kernel)
theorem dX11_trials_60 : decode cX11_trials 60 = .ok (.aload_n 0, 1) := zDc_42 (by decide +kernel)
theorem dX11_trials_61 : decode cX11_trials 61 = .ok (.getfield 85, 3) := zDc_180 (by decide +kernel)
theorem dX11_trials_64 : decode cX11_trials 64 = .ok (.invokevirtual 357, 3) := zDc_182 (by decide +kernel)
theorem dX11_trials_67 : decode cX11_trials 67 = .ok (.putfield 85, 3) := zDc_181 (by decide +kernel)
theorem dX11_trials_70 : decode cX11_trials 70 = .ok (.lload_n 3, 1) := zDc_33 (by decide +kernel)
theorem dX11_trials_71 : decode cX11_trials 71 = .ok (.aload_n 0, 1) := zDc_42 (by decide +kernel)
theorem dX11_trials_72 : decode cX11_trials 72 = .ok (.getfield 81, 3) := zDc_180 (by decide +kernel)
theorem dX11_trials_75 : decode cX11_trials 75 = .ok (.getfield 361, 3) := zDc_180 (by decide +kernel)
theorem dX11_trials_78 : decode cX11_trials 78 = .ok (.iload_n 2, 1) := zDc_28 (by decide +kernel)
theorem dX11_trials_79 : decode cX11_trials 79 = .ok (.laload, 1) := zDc_47 (by decide +kernel)
theorem dX11_trials_80 : decode cX11_trials 80 = .ok (.aload_n 0, 1) := zDc_42 (by decide +kernel)
theorem dX11_trials_81 : decode cX11_trials 81 = .ok (.getfield 81, 3) := zDc_180 (by decide +kernel)
theorem dX11_trials_84 : decode cX11_trials 84 = .ok (.getfield 364, 3) := zDc_180 (by decide +kernel)
theorem dX11_trials_87 : decode cX11_trials 87 = .ok (.iload_n 2, 1) := zDc_28 (by decide +kernel)
theorem dX11_trials_88 : decode cX11_trials 88 = .ok (.laload, 1) := zDc_47 (by decide +kernel)
theorem dX11_trials_89 : decode cX11_trials 89 = .ok (.lsub, 1) := zDc_101 (by decide +kernel)
theorem dX11_trials_90 : decode cX11_trials 90 = .ok (.invokestatic 367, 3) := zDc_184 (by decide +kernel)
theorem dX11_trials_93 : decode cX11_trials 93 = .ok (.invokestatic 373, 3) := zDc_184 (by decide +kernel)
theorem dX11_trials_96 : decode cX11_trials 96 = .ok (.lstore_n 3, 1) := zDc_66 (by decide +kernel)
theorem dX11_trials_97 : decode cX11_trials 97 = .ok (.iinc 5 1, 3) := zDc_132 (by decide +kernel)
theorem dX11_trials_100 : decode cX11_trials 100 = .ok (.goto (-59), 3) := zDc_167 (by decide +kernel)
theorem dX11_trials_103 : decode cX11_trials 103 = .ok (.lload_n 3, 1) := zDc_33 (by decide +kernel)
theorem dX11_trials_104 : decode cX11_trials 104 = .ok (.lreturn, 1) := zDc_173 (by decide +kernel)
theorem dX11_trial_0 : decode cX11_trial 0 = .ok (.aload_n 0, 1) := zDc_42 (by decide +kernel)
theorem dX11_trial_1 : decode cX11_trial 1 = .ok (.getfield 27, 3) := zDc_180 (by decide +kernel)
theorem dX11_trial_4 : decode cX11_trial 4 = .ok (.iload_n 1, 1) := zDc_27 (by decide +kernel)
theorem dX11_trial_5 : decode cX11_trial 5 = .ok (.invokevirtual 157, 3) := zDc_182 (by decide +kernel)
theorem dX11_trial_8 : decode cX11_trial 8 = .ok (.ifCond .eq 10, 3) := zDc_153 (by decide +kernel)
theorem dX11_trial_11 : decode cX11_trial 11 = .ok (.aload_n 0, 1) := zDc_42 (by decide +kernel)
theorem dX11_trial_12 : decode cX11_trial 12 = .ok (.invokevirtual 254, 3) := zDc_182 (by decide +kernel)
theorem dX11_trial_15 : decode cX11_trial 15 = .ok (.ifCond .ne 7, 3) := zDc_154 (by decide +kernel)
theorem dX11_trial_18 : decode cX11_trial 18 = .ok (.ldc2_w 194, 3) := zDc_20 (by decide +kernel)
theorem dX11_trial_21 : decode cX11_trial 21 = .ok (.lreturn, 1) := zDc_173 (by decide +kernel)
theorem dX11_trial_22 : decode cX11_trial 22 = .ok (.aload_n 0, 1) := zDc_42 (by decide +kernel)
theorem dX11_trial_23 : decode cX11_trial 23 = .ok (.getfield 81, 3) := zDc_180 (by decide +kernel)
theorem dX11_trial_26 : decode cX11_trial 26 = .ok (.aload_n 0, 1) := zDc_42 (by decide +kernel)
theorem dX11_trial_27 : decode cX11_trial 27 = .ok (.getfield 27, 3) := zDc_180 (by decide +kernel)
theorem dX11_trial_30 : decode cX11_trial 30 = .ok (.aload_n 0, 1) := zDc_42 (by decide +kernel)
theorem dX11_trial_31 : decode cX11_trial 31 = .ok (.getfield 34, 3) := zDc_180 (by decide +kernel)
theorem dX11_trial_34 : decode cX11_trial 34 = .ok (.aload_n 0, 1) := zDc_42 (by decide +kernel)
theorem dX11_trial_35 : decode cX11_trial 35 = .ok (.getfield 85, 3) := zDc_180 (by decide +kernel)
theorem dX11_trial_38 : decode cX11_trial 38 = .ok (.invokevirtual 357, 3) := zDc_182 (by decide +kernel)
theorem dX11_trial_41 : decode cX11_trial 41 = .ok (.pop, 1) := zDc_87 (by decide +kernel)
theorem dX11_trial_42 : decode cX11_trial 42 = .ok (.iload_n 2, 1) := zDc_28 (by decide +kernel)
theorem dX11_trial_43 : decode cX11_trial 43 = .ok (.ifCond .eq 15, 3) := zDc_153 (by decide +kernel)
theorem dX11_trial_46 : decode cX11_trial 46 = .ok (.aload_n 0, 1) := zDc_42 (by decide +kernel)
theorem dX11_trial_47 : decode cX11_trial 47 = .ok (.getfield 81, 3) := zDc_180 (by decide +kernel)
theorem dX11_trial_50 : decode cX11_trial 50 = .ok (.getfield 361, 3) := zDc_180 (by decide +kernel)
theorem dX11_trial_53 : decode cX11_trial 53 = .ok (.iload_n 1, 1) := zDc_27 (by decide +kernel)
theorem dX11_trial_54 : decode cX11_trial 54 = .ok (.laload, 1) := zDc_47 (by decide +kernel)
theorem dX11_trial_55 : decode cX11_trial 55 = .ok (.goto 12, 3) := zDc_167 (by decide +kernel)
theorem dX11_trial_58 : decode cX11_trial 58 = .ok (.aload_n 0, 1) := zDc_42 (by decide +kernel)
theorem dX11_trial_59 : decode cX11_trial 59 = .ok (.getfield 81, 3) := zDc_180 (by decide +kernel)
theorem dX11_trial_62 : decode cX11_trial 62 = .ok (.getfield 364, 3) := zDc_180 (by decide +kernel)
theorem dX11_trial_65 : decode cX11_trial 65 = .ok (.iload_n 1, 1) := zDc_27 (by decide +kernel)
theorem dX11_trial_66 : decode cX11_trial 66 = .ok (.laload, 1) := zDc_47 (by decide +kernel)
theorem dX11_trial_67 : decode cX11_trial 67 = .ok (.lreturn, 1) := zDc_173 (by decide +kernel)
theorem dX11_seed_0 : decode cX11_seed 0 = .ok (.iload_n 1, 1) := zDc_27 (by decide +kernel)
theorem dX11_seed_1 : decode cX11_seed 1 = .ok (.ifCond .ge 11, 3) := zDc_156 (by decide +kernel)
theorem dX11_seed_4 : decode cX11_seed 4 = .ok (.aload_n 0, 1) := zDc_42 (by decide +kernel)
theorem dX11_seed_5 : decode cX11_seed 5 = .ok (.iconst 4, 1) := zDc_7 (by decide +kernel)
theorem dX11_seed_6 : decode cX11_seed 6 = .ok (.invokevirtual 92, 3) := zDc_182 (by decide +kernel)
theorem dX11_seed_9 : decode cX11_seed 9 = .ok (.pop, 1) := zDc_87 (by decide +kernel)
theorem dX11_seed_10 : decode cX11_seed 10 = .ok (.iconst 0, 1) := zDc_3 (by decide +kernel)
theorem dX11_seed_11 : decode cX11_seed 11 = .ok (.ireturn, 1) := zDc_172 (by decide +kernel)
theorem dX11_seed_12 : decode cX11_seed 12 = .ok (.aload_n 0, 1) := zDc_42 (by decide +kernel)
theorem dX11_seed_13 : decode cX11_seed 13 = .ok (.iload_n 1, 1) := zDc_27 (by decide +kernel)
theorem dX11_seed_14 : decode cX11_seed 14 = .ok (.putfield 85, 3) := zDc_181 (by decide +kernel)
theorem dX11_seed_17 : decode cX11_seed 17 = .ok (.iconst 1, 1) := zDc_4 (by decide +kernel)
theorem dX11_seed_18 : decode cX11_seed 18 = .ok (.ireturn, 1) := zDc_172 (by decide +kernel)
theorem dX11_status_0 : decode cX11_status 0 = .ok (.iload_n 1, 1) := zDc_27 (by decide +kernel)
theorem dX11_status_1 : decode cX11_status 1 = .ok (.ifCond .lt 17, 3) := zDc_155 (by decide +kernel)
theorem dX11_status_4 : decode cX11_status 4 = .ok (.iload_n 1, 1) := zDc_27 (by decide +kernel)
theorem dX11_status_5 : decode cX11_status 5 = .ok (.iconst 5, 1) := zDc_8 (by decide +kernel)
theorem dX11_status_6 : decode cX11_status 6 = .ok (.if_icmp .ge 12, 3) := zDc_162 (by decide +kernel)
theorem dX11_status_9 : decode cX11_status 9 = .ok (.aload_n 0, 1) := zDc_42 (by decide +kernel)
theorem dX11_status_10 : decode cX11_status 10 = .ok (.getfield 13, 3) := zDc_180 (by decide +kernel)
theorem dX11_status_13 : decode cX11_status 13 = .ok (.iload_n 1, 1) := zDc_27 (by decide +kernel)
theorem dX11_status_14 : decode cX11_status 14 = .ok (.iaload, 1) := zDc_46 (by decide +kernel)
theorem dX11_status_15 : decode cX11_status 15 = .ok (.goto 4, 3) := zDc_167 (by decide +kernel)
theorem dX11_status_18 : decode cX11_status 18 = .ok (.iconst (-1), 1) := zDc_2 (by decide +kernel)
theorem dX11_status_19 : decode cX11_status 19 = .ok (.ireturn, 1) := zDc_172 (by decide +kernel)
theorem dX11_refuse_0 : decode cX11_refuse 0 = .ok (.iload_n 1, 1) := zDc_27 (by decide +kernel)
theorem dX11_refuse_1 : decode cX11_refuse 1 = .ok (.ifCond .lt 18, 3) := zDc_155 (by decide +kernel)
theorem dX11_refuse_4 : decode cX11_refuse 4 = .ok (.iload_n 1, 1) := zDc_27 (by decide +kernel)
theorem dX11_refuse_5 : decode cX11_refuse 5 = .ok (.iconst 5, 1) := zDc_8 (by decide +kernel)
theorem dX11_refuse_6 : decode cX11_refuse 6 = .ok (.if_icmp .ge 13, 3) := zDc_162 (by decide +kernel)
theorem dX11_refuse_9 : decode cX11_refuse 9 = .ok (.aload_n 0, 1) := zDc_42 (by decide +kernel)
theorem dX11_refuse_10 : decode cX11_refuse 10 = .ok (.getfield 13, 3) := zDc_180 (by decide +kernel)
theorem dX11_refuse_13 : decode cX11_refuse 13 = .ok (.iload_n 1, 1) := zDc_27 (by decide +kernel)
theorem dX11_refuse_14 : decode cX11_refuse 14 = .ok (.dup2, 1) := zDc_92 (by decide +kernel)
theorem dX11_refuse_15 : decode cX11_refuse 15 = .ok (.iaload, 1) := zDc_46 (by decide +kernel)
theorem dX11_refuse_16 : decode cX11_refuse 16 = .ok (.iconst 1, 1) := zDc_4 (by decide +kernel)
theorem dX11_refuse_17 : decode cX11_refuse 17 = .ok (.iadd, 1) := zDc_96 (by decide +kernel)
theorem dX11_refuse_18 : decode cX11_refuse 18 = .ok (.iastore, 1) := zDc_79 (by decide +kernel)
theorem dX11_refuse_19 : decode cX11_refuse 19 = .ok (.iconst (-1), 1) := zDc_2 (by decide +kernel)
theorem dX11_refuse_20 : decode cX11_refuse 20 = .ok (.ireturn, 1) := zDc_172 (by decide +kernel)
theorem dX11_putBytes_0 : decode cX11_putBytes 0 = .ok (.bipush 24, 2) := zDc_16 (by decide +kernel)
theorem dX11_putBytes_2 : decode cX11_putBytes 2 = .ok (.istore_n 2, 1) := zDc_61 (by decide +kernel)
theorem dX11_putBytes_3 : decode cX11_putBytes 3 = .ok (.iload_n 2, 1) := zDc_28 (by decide +kernel)
theorem dX11_putBytes_4 : decode cX11_putBytes 4 = .ok (.ifCond .lt 42, 3) := zDc_155 (by decide +kernel)
theorem dX11_putBytes_7 : decode cX11_putBytes 7 = .ok (.aload_n 0, 1) := zDc_42 (by decide +kernel)
theorem dX11_putBytes_8 : decode cX11_putBytes 8 = .ok (.getfield 89, 3) := zDc_180 (by decide +kernel)
theorem dX11_putBytes_11 : decode cX11_putBytes 11 = .ok (.sipush 1200, 3) := zDc_17 (by decide +kernel)
theorem dX11_putBytes_14 : decode cX11_putBytes 14 = .ok (.if_icmp .ge 26, 3) := zDc_162 (by decide +kernel)
theorem dX11_putBytes_17 : decode cX11_putBytes 17 = .ok (.aload_n 0, 1) := zDc_42 (by decide +kernel)
theorem dX11_putBytes_18 : decode cX11_putBytes 18 = .ok (.getfield 9, 3) := zDc_180 (by decide +kernel)
theorem dX11_putBytes_21 : decode cX11_putBytes 21 = .ok (.aload_n 0, 1) := zDc_42 (by decide +kernel)
theorem dX11_putBytes_22 : decode cX11_putBytes 22 = .ok (.getfield 89, 3) := zDc_180 (by decide +kernel)
theorem dX11_putBytes_25 : decode cX11_putBytes 25 = .ok (.iload_n 1, 1) := zDc_27 (by decide +kernel)
theorem dX11_putBytes_26 : decode cX11_putBytes 26 = .ok (.iload_n 2, 1) := zDc_28 (by decide +kernel)
theorem dX11_putBytes_27 : decode cX11_putBytes 27 = .ok (.ishr, 1) := zDc_122 (by decide +kernel)
theorem dX11_putBytes_28 : decode cX11_putBytes 28 = .ok (.i2b, 1) := zDc_145 (by decide +kernel)
theorem dX11_putBytes_29 : decode cX11_putBytes 29 = .ok (.bastore, 1) := zDc_84 (by decide +kernel)
theorem dX11_putBytes_30 : decode cX11_putBytes 30 = .ok (.aload_n 0, 1) := zDc_42 (by decide +kernel)
theorem dX11_putBytes_31 : decode cX11_putBytes 31 = .ok (.dup, 1) := zDc_89 (by decide +kernel)
theorem dX11_putBytes_32 : decode cX11_putBytes 32 = .ok (.getfield 89, 3) := zDc_180 (by decide +kernel)
theorem dX11_putBytes_35 : decode cX11_putBytes 35 = .ok (.iconst 1, 1) := zDc_4 (by decide +kernel)
theorem dX11_putBytes_36 : decode cX11_putBytes 36 = .ok (.iadd, 1) := zDc_96 (by decide +kernel)
theorem dX11_putBytes_37 : decode cX11_putBytes 37 = .ok (.putfield 89, 3) := zDc_181 (by decide +kernel)
theorem dX11_putBytes_40 : decode cX11_putBytes 40 = .ok (.iinc 2 (-8), 3) := zDc_132 (by decide +kernel)
theorem dX11_putBytes_43 : decode cX11_putBytes 43 = .ok (.goto (-40), 3) := zDc_167 (by decide +kernel)
theorem dX11_putBytes_46 : decode cX11_putBytes 46 = .ok (.return_, 1) := zDc_177 (by decide +kernel)
theorem dX11_handPasses_0 : decode cX11_handPasses 0 = .ok (.aload_n 0, 1) := zDc_42 (by decide +kernel)
theorem dX11_handPasses_1 : decode cX11_handPasses 1 = .ok (.getfield 27, 3) := zDc_180 (by decide +kernel)
theorem dX11_handPasses_4 : decode cX11_handPasses 4 = .ok (.invokevirtual 220, 3) := zDc_182 (by decide +kernel)
theorem dX11_handPasses_7 : decode cX11_handPasses 7 = .ok (.ifCond .eq 32, 3) := zDc_153 (by decide +kernel)
theorem dX11_handPasses_10 : decode cX11_handPasses 10 = .ok (.aload_n 0, 1) := zDc_42 (by decide +kernel)
theorem dX11_handPasses_11 : decode cX11_handPasses 11 = .ok (.getfield 43, 3) := zDc_180 (by decide +kernel)
theorem dX11_handPasses_14 : decode cX11_handPasses 14 = .ok (.aload_n 0, 1) := zDc_42 (by decide +kernel)
theorem dX11_handPasses_15 : decode cX11_handPasses 15 = .ok (.getfield 27, 3) := zDc_180 (by decide +kernel)
theorem dX11_handPasses_18 : decode cX11_handPasses 18 = .ok (.aload_n 0, 1) := zDc_42 (by decide +kernel)
theorem dX11_handPasses_19 : decode cX11_handPasses 19 = .ok (.getfield 27, 3) := zDc_180 (by decide +kernel)
theorem dX11_handPasses_22 : decode cX11_handPasses 22 = .ok (.getfield 200, 3) := zDc_180 (by decide +kernel)
theorem dX11_handPasses_25 : decode cX11_handPasses 25 = .ok (.aload_n 0, 1) := zDc_42 (by decide +kernel)
theorem dX11_handPasses_26 : decode cX11_handPasses 26 = .ok (.getfield 34, 3) := zDc_180 (by decide +kernel)
theorem dX11_handPasses_29 : decode cX11_handPasses 29 = .ok (.invokevirtual 238, 3) := zDc_182 (by decide +kernel)
theorem dX11_handPasses_32 : decode cX11_handPasses 32 = .ok (.ifCond .eq 7, 3) := zDc_153 (by decide +kernel)
theorem dX11_handPasses_35 : decode cX11_handPasses 35 = .ok (.iconst 1, 1) := zDc_4 (by decide +kernel)
theorem dX11_handPasses_36 : decode cX11_handPasses 36 = .ok (.goto 4, 3) := zDc_167 (by decide +kernel)
theorem dX11_handPasses_39 : decode cX11_handPasses 39 = .ok (.iconst 0, 1) := zDc_3 (by decide +kernel)
theorem dX11_handPasses_40 : decode cX11_handPasses 40 = .ok (.ireturn, 1) := zDc_172 (by decide +kernel)
theorem dX11_passesLonger_0 : decode cX11_passesLonger 0 = .ok (.aload_n 0, 1) := zDc_42 (by decide +kernel)
theorem dX11_passesLonger_1 : decode cX11_passesLonger 1 = .ok (.getfield 53, 3) := zDc_180 (by decide +kernel)
theorem dX11_passesLonger_4 : decode cX11_passesLonger 4 = .ok (.aload_n 0, 1) := zDc_42 (by decide +kernel)
theorem dX11_passesLonger_5 : decode cX11_passesLonger 5 = .ok (.getfield 27, 3) := zDc_180 (by decide +kernel)
theorem dX11_passesLonger_8 : decode cX11_passesLonger 8 = .ok (.getfield 122, 3) := zDc_180 (by decide +kernel)
theorem dX11_passesLonger_11 : decode cX11_passesLonger 11 = .ok (.iload_n 1, 1) := zDc_27 (by decide +kernel)
theorem dX11_passesLonger_12 : decode cX11_passesLonger 12 = .ok (.iload_n 2, 1) := zDc_28 (by decide +kernel)
theorem dX11_passesLonger_13 : decode cX11_passesLonger 13 = .ok (.invokevirtual 377, 3) := zDc_182 (by decide +kernel)
theorem dX11_passesLonger_16 : decode cX11_passesLonger 16 = .ok (.aload_n 0, 1) := zDc_42 (by decide +kernel)
theorem dX11_passesLonger_17 : decode cX11_passesLonger 17 = .ok (.getfield 47, 3) := zDc_180 (by decide +kernel)
theorem dX11_passesLonger_20 : decode cX11_passesLonger 20 = .ok (.aload_n 0, 1) := zDc_42 (by decide +kernel)
theorem dX11_passesLonger_21 : decode cX11_passesLonger 21 = .ok (.getfield 27, 3) := zDc_180 (by decide +kernel)
theorem dX11_passesLonger_24 : decode cX11_passesLonger 24 = .ok (.aload_n 0, 1) := zDc_42 (by decide +kernel)
theorem dX11_passesLonger_25 : decode cX11_passesLonger 25 = .ok (.getfield 53, 3) := zDc_180 (by decide +kernel)
theorem dX11_passesLonger_28 : decode cX11_passesLonger 28 = .ok (.aload_n 0, 1) := zDc_42 (by decide +kernel)
theorem dX11_passesLonger_29 : decode cX11_passesLonger 29 = .ok (.getfield 34, 3) := zDc_180 (by decide +kernel)
theorem dX11_passesLonger_32 : decode cX11_passesLonger 32 = .ok (.invokevirtual 238, 3) := zDc_182 (by decide +kernel)
theorem dX11_passesLonger_35 : decode cX11_passesLonger 35 = .ok (.ireturn, 1) := zDc_172 (by decide +kernel)
theorem dX11_takeCheapest_0 : decode cX11_takeCheapest 0 = .ok (.aload_n 0, 1) := zDc_42 (by decide +kernel)
theorem dX11_takeCheapest_1 : decode cX11_takeCheapest 1 = .ok (.getfield 60, 3) := zDc_180 (by decide +kernel)
theorem dX11_takeCheapest_4 : decode cX11_takeCheapest 4 = .ok (.aload_n 0, 1) := zDc_42 (by decide +kernel)
theorem dX11_takeCheapest_5 : decode cX11_takeCheapest 5 = .ok (.getfield 27, 3) := zDc_180 (by decide +kernel)
theorem dX11_takeCheapest_8 : decode cX11_takeCheapest 8 = .ok (.invokevirtual 273, 3) := zDc_182 (by decide +kernel)
theorem dX11_takeCheapest_11 : decode cX11_takeCheapest 11 = .ok (.ifCond .eq 14, 3) := zDc_153 (by decide +kernel)
theorem dX11_takeCheapest_14 : decode cX11_takeCheapest 14 = .ok (.aload_n 0, 1) := zDc_42 (by decide +kernel)
theorem dX11_takeCheapest_15 : decode cX11_takeCheapest 15 = .ok (.getfield 60, 3) := zDc_180 (by decide +kernel)
theorem dX11_takeCheapest_18 : decode cX11_takeCheapest 18 = .ok (.getfield 277, 3) := zDc_180 (by decide +kernel)
theorem dX11_takeCheapest_21 : decode cX11_takeCheapest 21 = .ok (.iconst (-1), 1) := zDc_2 (by decide +kernel)
theorem dX11_takeCheapest_22 : decode cX11_takeCheapest 22 = .ok (.if_icmp .ne 5, 3) := zDc_160 (by decide +kernel)
theorem dX11_takeCheapest_25 : decode cX11_takeCheapest 25 = .ok (.iconst 0, 1) := zDc_3 (by decide +kernel)
theorem dX11_takeCheapest_26 : decode cX11_takeCheapest 26 = .ok (.ireturn, 1) := zDc_172 (by decide +kernel)
theorem dX11_takeCheapest_27 : decode cX11_takeCheapest 27 = .ok (.aload_n 0, 1) := zDc_42 (by decide +kernel)
theorem dX11_takeCheapest_28 : decode cX11_takeCheapest 28 = .ok (.getfield 27, 3) := zDc_180 (by decide +kernel)
theorem dX11_takeCheapest_31 : decode cX11_takeCheapest 31 = .ok (.aload_n 0, 1) := zDc_42 (by decide +kernel)
theorem dX11_takeCheapest_32 : decode cX11_takeCheapest 32 = .ok (.getfield 60, 3) := zDc_180 (by decide +kernel)
theorem dX11_takeCheapest_35 : decode cX11_takeCheapest 35 = .ok (.getfield 277, 3) := zDc_180 (by decide +kernel)
theorem dX11_takeCheapest_38 : decode cX11_takeCheapest 38 = .ok (.aload_n 0, 1) := zDc_42 (by decide +kernel)
theorem dX11_takeCheapest_39 : decode cX11_takeCheapest 39 = .ok (.getfield 34, 3) := zDc_180 (by decide +kernel)
theorem dX11_takeCheapest_42 : decode cX11_takeCheapest 42 = .ok (.invokestatic 283, 3) := zDc_184 (by decide +kernel)
theorem dX11_takeCheapest_45 : decode cX11_takeCheapest 45 = .ok (.iconst 1, 1) := zDc_4 (by decide +kernel)
theorem dX11_takeCheapest_46 : decode cX11_takeCheapest 46 = .ok (.ireturn, 1) := zDc_172 (by decide +kernel)
theorem dX11_takeSingle_0 : decode cX11_takeSingle 0 = .ok (.aload_n 0, 1) := zDc_42 (by decide +kernel)
theorem dX11_takeSingle_1 : decode cX11_takeSingle 1 = .ok (.getfield 27, 3) := zDc_180 (by decide +kernel)
theorem dX11_takeSingle_4 : decode cX11_takeSingle 4 = .ok (.invokevirtual 220, 3) := zDc_182 (by decide +kernel)
theorem dX11_takeSingle_7 : decode cX11_takeSingle 7 = .ok (.ifCond .ne 5, 3) := zDc_154 (by decide +kernel)
theorem dX11_takeSingle_10 : decode cX11_takeSingle 10 = .ok (.iconst 0, 1) := zDc_3 (by decide +kernel)
theorem dX11_takeSingle_11 : decode cX11_takeSingle 11 = .ok (.ireturn, 1) := zDc_172 (by decide +kernel)
theorem dX11_takeSingle_12 : decode cX11_takeSingle 12 = .ok (.aload_n 0, 1) := zDc_42 (by decide +kernel)
theorem dX11_takeSingle_13 : decode cX11_takeSingle 13 = .ok (.getfield 67, 3) := zDc_180 (by decide +kernel)
theorem dX11_takeSingle_16 : decode cX11_takeSingle 16 = .ok (.aload_n 0, 1) := zDc_42 (by decide +kernel)
theorem dX11_takeSingle_17 : decode cX11_takeSingle 17 = .ok (.getfield 27, 3) := zDc_180 (by decide +kernel)
theorem dX11_takeSingle_20 : decode cX11_takeSingle 20 = .ok (.aload_n 0, 1) := zDc_42 (by decide +kernel)
theorem dX11_takeSingle_21 : decode cX11_takeSingle 21 = .ok (.getfield 34, 3) := zDc_180 (by decide +kernel)
theorem dX11_takeSingle_24 : decode cX11_takeSingle 24 = .ok (.invokevirtual 301, 3) := zDc_182 (by decide +kernel)
theorem dX11_takeSingle_27 : decode cX11_takeSingle 27 = .ok (.aload_n 0, 1) := zDc_42 (by decide +kernel)
theorem dX11_takeSingle_28 : decode cX11_takeSingle 28 = .ok (.getfield 27, 3) := zDc_180 (by decide +kernel)
theorem dX11_takeSingle_31 : decode cX11_takeSingle 31 = .ok (.getfield 107, 3) := zDc_180 (by decide +kernel)
theorem dX11_takeSingle_34 : decode cX11_takeSingle 34 = .ok (.aload_n 0, 1) := zDc_42 (by decide +kernel)
theorem dX11_takeSingle_35 : decode cX11_takeSingle 35 = .ok (.getfield 67, 3) := zDc_180 (by decide +kernel)
theorem dX11_takeSingle_38 : decode cX11_takeSingle 38 = .ok (.getfield 311, 3) := zDc_180 (by decide +kernel)
theorem dX11_takeSingle_41 : decode cX11_takeSingle 41 = .ok (.invokevirtual 381, 3) := zDc_182 (by decide +kernel)
theorem dX11_takeSingle_44 : decode cX11_takeSingle 44 = .ok (.ifCond .ne 5, 3) := zDc_154 (by decide +kernel)
theorem dX11_takeSingle_47 : decode cX11_takeSingle 47 = .ok (.iconst 0, 1) := zDc_3 (by decide +kernel)
theorem dX11_takeSingle_48 : decode cX11_takeSingle 48 = .ok (.ireturn, 1) := zDc_172 (by decide +kernel)
theorem dX11_takeSingle_49 : decode cX11_takeSingle 49 = .ok (.aload_n 0, 1) := zDc_42 (by decide +kernel)
theorem dX11_takeSingle_50 : decode cX11_takeSingle 50 = .ok (.getfield 34, 3) := zDc_180 (by decide +kernel)
theorem dX11_takeSingle_53 : decode cX11_takeSingle 53 = .ok (.aload_n 0, 1) := zDc_42 (by decide +kernel)
theorem dX11_takeSingle_54 : decode cX11_takeSingle 54 = .ok (.getfield 67, 3) := zDc_180 (by decide +kernel)
theorem dX11_takeSingle_57 : decode cX11_takeSingle 57 = .ok (.getfield 311, 3) := zDc_180 (by decide +kernel)
theorem dX11_takeSingle_60 : decode cX11_takeSingle 60 = .ok (.aload_n 0, 1) := zDc_42 (by decide +kernel)
theorem dX11_takeSingle_61 : decode cX11_takeSingle 61 = .ok (.getfield 67, 3) := zDc_180 (by decide +kernel)
theorem dX11_takeSingle_64 : decode cX11_takeSingle 64 = .ok (.getfield 317, 3) := zDc_180 (by decide +kernel)
theorem dX11_takeSingle_67 : decode cX11_takeSingle 67 = .ok (.iastore, 1) := zDc_79 (by decide +kernel)
theorem dX11_takeSingle_68 : decode cX11_takeSingle 68 = .ok (.iconst 1, 1) := zDc_4 (by decide +kernel)
theorem dX11_takeSingle_69 : decode cX11_takeSingle 69 = .ok (.ireturn, 1) := zDc_172 (by decide +kernel)
theorem dX11_copyChoice_0 : decode cX11_copyChoice 0 = .ok (.iconst 0, 1) := zDc_3 (by decide +kernel)
theorem dX11_copyChoice_1 : decode cX11_copyChoice 1 = .ok (.istore_n 2, 1) := zDc_61 (by decide +kernel)
theorem dX11_copyChoice_2 : decode cX11_copyChoice 2 = .ok (.iload_n 2, 1) := zDc_28 (by decide +kernel)
theorem dX11_copyChoice_3 : decode cX11_copyChoice 3 = .ok (.bipush 14, 2) := zDc_16 (by decide +kernel)
theorem dX11_copyChoice_5 : decode cX11_copyChoice 5 = .ok (.if_icmp .ge 27, 3) := zDc_162 (by decide +kernel)
theorem dX11_copyChoice_8 : decode cX11_copyChoice 8 = .ok (.iload_n 2, 1) := zDc_28 (by decide +kernel)
theorem dX11_copyChoice_9 : decode cX11_copyChoice 9 = .ok (.aload_n 0, 1) := zDc_42 (by decide +kernel)
theorem dX11_copyChoice_10 : decode cX11_copyChoice 10 = .ok (.arraylength, 1) := zDc_190 (by decide +kernel)
theorem dX11_copyChoice_11 : decode cX11_copyChoice 11 = .ok (.if_icmp .ge 21, 3) := zDc_162 (by decide +kernel)
theorem dX11_copyChoice_14 : decode cX11_copyChoice 14 = .ok (.iload_n 2, 1) := zDc_28 (by decide +kernel)
theorem dX11_copyChoice_15 : decode cX11_copyChoice 15 = .ok (.aload_n 1, 1) := zDc_43 (by decide +kernel)
theorem dX11_copyChoice_16 : decode cX11_copyChoice 16 = .ok (.arraylength, 1) := zDc_190 (by decide +kernel)
theorem dX11_copyChoice_17 : decode cX11_copyChoice 17 = .ok (.if_icmp .ge 15, 3) := zDc_162 (by decide +kernel)
theorem dX11_copyChoice_20 : decode cX11_copyChoice 20 = .ok (.aload_n 1, 1) := zDc_43 (by decide +kernel)
theorem dX11_copyChoice_21 : decode cX11_copyChoice 21 = .ok (.iload_n 2, 1) := zDc_28 (by decide +kernel)
theorem dX11_copyChoice_22 : decode cX11_copyChoice 22 = .ok (.aload_n 0, 1) := zDc_42 (by decide +kernel)
theorem dX11_copyChoice_23 : decode cX11_copyChoice 23 = .ok (.iload_n 2, 1) := zDc_28 (by decide +kernel)
theorem dX11_copyChoice_24 : decode cX11_copyChoice 24 = .ok (.iaload, 1) := zDc_46 (by decide +kernel)
theorem dX11_copyChoice_25 : decode cX11_copyChoice 25 = .ok (.iastore, 1) := zDc_79 (by decide +kernel)
theorem dX11_copyChoice_26 : decode cX11_copyChoice 26 = .ok (.iinc 2 1, 3) := zDc_132 (by decide +kernel)
theorem dX11_copyChoice_29 : decode cX11_copyChoice 29 = .ok (.goto (-27), 3) := zDc_167 (by decide +kernel)
theorem dX11_copyChoice_32 : decode cX11_copyChoice 32 = .ok (.return_, 1) := zDc_177 (by decide +kernel)
theorem dX11_letterOf_0 : decode cX11_letterOf 0 = .ok (.iload_n 0, 1) := zDc_26 (by decide +kernel)
theorem dX11_letterOf_1 : decode cX11_letterOf 1 = .ok (.iconst 5, 1) := zDc_8 (by decide +kernel)
theorem dX11_letterOf_2 : decode cX11_letterOf 2 = .ok (.iconst 5, 1) := zDc_8 (by decide +kernel)
theorem dX11_letterOf_3 : decode cX11_letterOf 3 = .ok (.iload_n 1, 1) := zDc_27 (by decide +kernel)
theorem dX11_letterOf_4 : decode cX11_letterOf 4 = .ok (.isub, 1) := zDc_100 (by decide +kernel)
theorem dX11_letterOf_5 : decode cX11_letterOf 5 = .ok (.imul, 1) := zDc_104 (by decide +kernel)
theorem dX11_letterOf_6 : decode cX11_letterOf 6 = .ok (.ishr, 1) := zDc_122 (by decide +kernel)
theorem dX11_letterOf_7 : decode cX11_letterOf 7 = .ok (.bipush 31, 2) := zDc_16 (by decide +kernel)
theorem dX11_letterOf_9 : decode cX11_letterOf 9 = .ok (.iand, 1) := zDc_126 (by decide +kernel)
theorem dX11_letterOf_10 : decode cX11_letterOf 10 = .ok (.ireturn, 1) := zDc_172 (by decide +kernel)
theorem dX11_byteOf_0 : decode cX11_byteOf 0 = .ok (.lload_n 0, 1) := zDc_30 (by decide +kernel)
theorem dX11_byteOf_1 : decode cX11_byteOf 1 = .ok (.bipush 8, 2) := zDc_16 (by decide +kernel)
theorem dX11_byteOf_3 : decode cX11_byteOf 3 = .ok (.bipush 7, 2) := zDc_16 (by decide +kernel)
theorem dX11_byteOf_5 : decode cX11_byteOf 5 = .ok (.iload_n 2, 1) := zDc_28 (by decide +kernel)
theorem dX11_byteOf_6 : decode cX11_byteOf 6 = .ok (.isub, 1) := zDc_100 (by decide +kernel)
theorem dX11_byteOf_7 : decode cX11_byteOf 7 = .ok (.imul, 1) := zDc_104 (by decide +kernel)
theorem dX11_byteOf_8 : decode cX11_byteOf 8 = .ok (.lshr, 1) := zDc_123 (by decide +kernel)
theorem dX11_byteOf_9 : decode cX11_byteOf 9 = .ok (.ldc2_w 382, 3) := zDc_20 (by decide +kernel)
theorem dX11_byteOf_12 : decode cX11_byteOf 12 = .ok (.land, 1) := zDc_127 (by decide +kernel)
theorem dX11_byteOf_13 : decode cX11_byteOf 13 = .ok (.l2i, 1) := zDc_136 (by decide +kernel)
theorem dX11_byteOf_14 : decode cX11_byteOf 14 = .ok (.ireturn, 1) := zDc_172 (by decide +kernel)
theorem dX11_divides_0 : decode cX11_divides 0 = .ok (.lload_n 0, 1) := zDc_30 (by decide +kernel)
theorem dX11_divides_1 : decode cX11_divides 1 = .ok (.lconst 0, 1) := zDc_9 (by decide +kernel)
theorem dX11_divides_2 : decode cX11_divides 2 = .ok (.lcmp, 1) := zDc_148 (by decide +kernel)
theorem dX11_divides_3 : decode cX11_divides 3 = .ok (.ifCond .eq 15, 3) := zDc_153 (by decide +kernel)
theorem dX11_divides_6 : decode cX11_divides 6 = .ok (.lload_n 2, 1) := zDc_32 (by decide +kernel)
theorem dX11_divides_7 : decode cX11_divides 7 = .ok (.lload_n 0, 1) := zDc_30 (by decide +kernel)
theorem dX11_divides_8 : decode cX11_divides 8 = .ok (.lrem, 1) := zDc_113 (by decide +kernel)
theorem dX11_divides_9 : decode cX11_divides 9 = .ok (.lconst 0, 1) := zDc_9 (by decide +kernel)
theorem dX11_divides_10 : decode cX11_divides 10 = .ok (.lcmp, 1) := zDc_148 (by decide +kernel)
theorem dX11_divides_11 : decode cX11_divides 11 = .ok (.ifCond .ne 7, 3) := zDc_154 (by decide +kernel)
theorem dX11_divides_14 : decode cX11_divides 14 = .ok (.iconst 1, 1) := zDc_4 (by decide +kernel)
theorem dX11_divides_15 : decode cX11_divides 15 = .ok (.goto 4, 3) := zDc_167 (by decide +kernel)
theorem dX11_divides_18 : decode cX11_divides 18 = .ok (.iconst 0, 1) := zDc_3 (by decide +kernel)
theorem dX11_divides_19 : decode cX11_divides 19 = .ok (.ireturn, 1) := zDc_172 (by decide +kernel)
theorem dX11_nearest_0 : decode cX11_nearest 0 = .ok (.lload_n 2, 1) := zDc_32 (by decide +kernel)
theorem dX11_nearest_1 : decode cX11_nearest 1 = .ok (.lload 4, 2) := zDc_22 (by decide +kernel)
theorem dX11_nearest_3 : decode cX11_nearest 3 = .ok (.lmul, 1) := zDc_105 (by decide +kernel)
theorem dX11_nearest_4 : decode cX11_nearest 4 = .ok (.lstore 6, 2) := zDc_55 (by decide +kernel)
theorem dX11_nearest_6 : decode cX11_nearest 6 = .ok (.lload 6, 2) := zDc_22 (by decide +kernel)
theorem dX11_nearest_8 : decode cX11_nearest 8 = .ok (.lconst 1, 1) := zDc_10 (by decide +kernel)
theorem dX11_nearest_9 : decode cX11_nearest 9 = .ok (.lcmp, 1) := zDc_148 (by decide +kernel)
theorem dX11_nearest_10 : decode cX11_nearest 10 = .ok (.ifCond .ge 7, 3) := zDc_156 (by decide +kernel)
theorem dX11_nearest_13 : decode cX11_nearest 13 = .ok (.lconst 0, 1) := zDc_9 (by decide +kernel)
theorem dX11_nearest_14 : decode cX11_nearest 14 = .ok (.goto 23, 3) := zDc_167 (by decide +kernel)
theorem dX11_nearest_17 : decode cX11_nearest 17 = .ok (.ldc2_w 384, 3) := zDc_20 (by decide +kernel)
theorem dX11_nearest_20 : decode cX11_nearest 20 = .ok (.lload_n 0, 1) := zDc_30 (by decide +kernel)
theorem dX11_nearest_21 : decode cX11_nearest 21 = .ok (.lmul, 1) := zDc_105 (by decide +kernel)
theorem dX11_nearest_22 : decode cX11_nearest 22 = .ok (.lload 6, 2) := zDc_22 (by decide +kernel)
theorem dX11_nearest_24 : decode cX11_nearest 24 = .ok (.ladd, 1) := zDc_97 (by decide +kernel)
theorem dX11_nearest_25 : decode cX11_nearest 25 = .ok (.ldc2_w 384, 3) := zDc_20 (by decide +kernel)
theorem dX11_nearest_28 : decode cX11_nearest 28 = .ok (.lload 6, 2) := zDc_22 (by decide +kernel)
theorem dX11_nearest_30 : decode cX11_nearest 30 = .ok (.lmul, 1) := zDc_105 (by decide +kernel)
theorem dX11_nearest_31 : decode cX11_nearest 31 = .ok (.invokestatic 386, 3) := zDc_184 (by decide +kernel)
theorem dX11_nearest_34 : decode cX11_nearest 34 = .ok (.lload 4, 2) := zDc_22 (by decide +kernel)
theorem dX11_nearest_36 : decode cX11_nearest 36 = .ok (.lmul, 1) := zDc_105 (by decide +kernel)
theorem dX11_nearest_37 : decode cX11_nearest 37 = .ok (.lreturn, 1) := zDc_173 (by decide +kernel)
theorem dX11_apply_0 : decode cX11_apply 0 = .ok (.iload_n 0, 1) := zDc_26 (by decide +kernel)
theorem dX11_apply_1 : decode cX11_apply 1 = .ok (.tableswitch 67 1 5 #[35, 39, 43, 55, 61], 35) := by decide +kernel
theorem dX11_apply_36 : decode cX11_apply 36 = .ok (.lload_n 1, 1) := zDc_31 (by decide +kernel)
theorem dX11_apply_37 : decode cX11_apply 37 = .ok (.lload_n 3, 1) := zDc_33 (by decide +kernel)
theorem dX11_apply_38 : decode cX11_apply 38 = .ok (.ladd, 1) := zDc_97 (by decide +kernel)
theorem dX11_apply_39 : decode cX11_apply 39 = .ok (.lreturn, 1) := zDc_173 (by decide +kernel)
theorem dX11_apply_40 : decode cX11_apply 40 = .ok (.lload_n 1, 1) := zDc_31 (by decide +kernel)
theorem dX11_apply_41 : decode cX11_apply 41 = .ok (.lload_n 3, 1) := zDc_33 (by decide +kernel)
theorem dX11_apply_42 : decode cX11_apply 42 = .ok (.lsub, 1) := zDc_101 (by decide +kernel)
theorem dX11_apply_43 : decode cX11_apply 43 = .ok (.lreturn, 1) := zDc_173 (by decide +kernel)
theorem dX11_apply_44 : decode cX11_apply 44 = .ok (.lload_n 1, 1) := zDc_31 (by decide +kernel)
theorem dX11_apply_45 : decode cX11_apply 45 = .ok (.lload_n 3, 1) := zDc_33 (by decide +kernel)
theorem dX11_apply_46 : decode cX11_apply 46 = .ok (.lmul, 1) := zDc_105 (by decide +kernel)
theorem dX11_apply_47 : decode cX11_apply 47 = .ok (.ldc2_w 389, 3) := zDc_20 (by decide +kernel)
theorem dX11_apply_50 : decode cX11_apply 50 = .ok (.lload 5, 2) := zDc_22 (by decide +kernel)
theorem dX11_apply_52 : decode cX11_apply 52 = .ok (.invokestatic 391, 3) := zDc_184 (by decide +kernel)
theorem dX11_apply_55 : decode cX11_apply 55 = .ok (.lreturn, 1) := zDc_173 (by decide +kernel)
theorem dX11_apply_56 : decode cX11_apply 56 = .ok (.lload_n 1, 1) := zDc_31 (by decide +kernel)
theorem dX11_apply_57 : decode cX11_apply 57 = .ok (.lload_n 3, 1) := zDc_33 (by decide +kernel)
theorem dX11_apply_58 : decode cX11_apply 58 = .ok (.invokestatic 395, 3) := zDc_184 (by decide +kernel)
theorem dX11_apply_61 : decode cX11_apply 61 = .ok (.lreturn, 1) := zDc_173 (by decide +kernel)
theorem dX11_apply_62 : decode cX11_apply 62 = .ok (.lload_n 1, 1) := zDc_31 (by decide +kernel)
theorem dX11_apply_63 : decode cX11_apply 63 = .ok (.lload_n 3, 1) := zDc_33 (by decide +kernel)
theorem dX11_apply_64 : decode cX11_apply 64 = .ok (.invokestatic 373, 3) := zDc_184 (by decide +kernel)
theorem dX11_apply_67 : decode cX11_apply 67 = .ok (.lreturn, 1) := zDc_173 (by decide +kernel)
theorem dX11_apply_68 : decode cX11_apply 68 = .ok (.lload_n 1, 1) := zDc_31 (by decide +kernel)
theorem dX11_apply_69 : decode cX11_apply 69 = .ok (.lreturn, 1) := zDc_173 (by decide +kernel)
theorem dJ9_floorDiv_f86c9_0 : decode cJ9_floorDiv_f86c9 0 = .ok (.lload_n 0, 1) := zDc_30 (by decide +kernel)
theorem dJ9_floorDiv_f86c9_1 : decode cJ9_floorDiv_f86c9 1 = .ok (.lload_n 2, 1) := zDc_32 (by decide +kernel)
theorem dJ9_floorDiv_f86c9_2 : decode cJ9_floorDiv_f86c9 2 = .ok (.ldiv, 1) := zDc_109 (by decide +kernel)
theorem dJ9_floorDiv_f86c9_3 : decode cJ9_floorDiv_f86c9 3 = .ok (.lstore 4, 2) := zDc_55 (by decide +kernel)
theorem dJ9_floorDiv_f86c9_5 : decode cJ9_floorDiv_f86c9 5 = .ok (.lload_n 0, 1) := zDc_30 (by decide +kernel)
theorem dJ9_floorDiv_f86c9_6 : decode cJ9_floorDiv_f86c9 6 = .ok (.lload_n 2, 1) := zDc_32 (by decide +kernel)
theorem dJ9_floorDiv_f86c9_7 : decode cJ9_floorDiv_f86c9 7 = .ok (.lxor, 1) := zDc_131 (by decide +kernel)
theorem dJ9_floorDiv_f86c9_8 : decode cJ9_floorDiv_f86c9 8 = .ok (.lconst 0, 1) := zDc_9 (by decide +kernel)
theorem dJ9_floorDiv_f86c9_9 : decode cJ9_floorDiv_f86c9 9 = .ok (.lcmp, 1) := zDc_148 (by decide +kernel)
theorem dJ9_floorDiv_f86c9_10 : decode cJ9_floorDiv_f86c9 10 = .ok (.ifCond .ge 17, 3) := zDc_156 (by decide +kernel)
theorem dJ9_floorDiv_f86c9_13 : decode cJ9_floorDiv_f86c9 13 = .ok (.lload 4, 2) := zDc_22 (by decide +kernel)
theorem dJ9_floorDiv_f86c9_15 : decode cJ9_floorDiv_f86c9 15 = .ok (.lload_n 2, 1) := zDc_32 (by decide +kernel)
theorem dJ9_floorDiv_f86c9_16 : decode cJ9_floorDiv_f86c9 16 = .ok (.lmul, 1) := zDc_105 (by decide +kernel)
theorem dJ9_floorDiv_f86c9_17 : decode cJ9_floorDiv_f86c9 17 = .ok (.lload_n 0, 1) := zDc_30 (by decide +kernel)
theorem dJ9_floorDiv_f86c9_18 : decode cJ9_floorDiv_f86c9 18 = .ok (.lcmp, 1) := zDc_148 (by decide +kernel)
theorem dJ9_floorDiv_f86c9_19 : decode cJ9_floorDiv_f86c9 19 = .ok (.ifCond .eq 8, 3) := zDc_153 (by decide +kernel)
theorem dJ9_floorDiv_f86c9_22 : decode cJ9_floorDiv_f86c9 22 = .ok (.lload 4, 2) := zDc_22 (by decide +kernel)
theorem dJ9_floorDiv_f86c9_24 : decode cJ9_floorDiv_f86c9 24 = .ok (.lconst 1, 1) := zDc_10 (by decide +kernel)
theorem dJ9_floorDiv_f86c9_25 : decode cJ9_floorDiv_f86c9 25 = .ok (.lsub, 1) := zDc_101 (by decide +kernel)
theorem dJ9_floorDiv_f86c9_26 : decode cJ9_floorDiv_f86c9 26 = .ok (.lreturn, 1) := zDc_173 (by decide +kernel)
theorem dJ9_floorDiv_f86c9_27 : decode cJ9_floorDiv_f86c9 27 = .ok (.lload 4, 2) := zDc_22 (by decide +kernel)
theorem dJ9_floorDiv_f86c9_29 : decode cJ9_floorDiv_f86c9 29 = .ok (.lreturn, 1) := zDc_173 (by decide +kernel)
noncomputable abbrev wsX120 : List Cond := u_ws RX12 TX12 67
noncomputable abbrev cX12_isIn : ByteArray := prog_14_method_1_code
noncomputable def yX12_isIn : MethodName := ⟨RX12, "isIn", "(JJJ)Z"⟩
noncomputable abbrev cX12_amount : ByteArray := prog_14_method_2_code
noncomputable def yX12_amount : MethodName := ⟨RX12, "amount", "(J)J"⟩
noncomputable abbrev cX12_greater : ByteArray := prog_14_method_3_code
noncomputable def yX12_greater : MethodName := ⟨RX12, "greater", "(JJ)J"⟩
noncomputable abbrev cX12_lesser : ByteArray := prog_14_method_4_code
noncomputable def yX12_lesser : MethodName := ⟨RX12, "lesser", "(JJ)J"⟩
noncomputable abbrev cX12_floor : ByteArray := prog_14_method_5_code
noncomputable def yX12_floor : MethodName := ⟨RX12, "floor", "(JJ)J"⟩
noncomputable abbrev cX12_init : ByteArray := prog_14_method_6_code
noncomputable def yX12_init : MethodName := ⟨RX12, "<init>", "()V"⟩
noncomputable abbrev cX12_refuses : ByteArray := prog_14_method_7_code
noncomputable def yX12_refuses : MethodName := ⟨RX12, "refuses", "(I)I"⟩
noncomputable abbrev cX12_isRefused : ByteArray := prog_14_method_8_code
noncomputable def yX12_isRefused : MethodName := ⟨RX12, "isRefused", "(I)Z"⟩
noncomputable abbrev cX12_lays : ByteArray := prog_14_method_9_code
noncomputable def yX12_lays : MethodName := ⟨RX12, "lays", "(I)V"⟩
noncomputable abbrev cX12_feed : ByteArray := prog_14_method_10_code
noncomputable def yX12_feed : MethodName := ⟨RX12, "feed", "(IIIII)I"⟩
noncomputable abbrev cX12_end : ByteArray := prog_14_method_11_code
noncomputable def yX12_end : MethodName := ⟨RX12, "end", "(I)Z"⟩
noncomputable abbrev cX12_byteAt : ByteArray := prog_14_method_12_code
noncomputable def yX12_byteAt : MethodName := ⟨RX12, "byteAt", "(I)I"⟩
noncomputable abbrev cX12_isSmall : ByteArray := prog_14_method_13_code
noncomputable def yX12_isSmall : MethodName := ⟨RX12, "isSmall", "(I)Z"⟩
noncomputable abbrev cX12_isDigit : ByteArray := prog_14_method_14_code
noncomputable def yX12_isDigit : MethodName := ⟨RX12, "isDigit", "(I)Z"⟩
noncomputable abbrev cX12_here : ByteArray := prog_14_method_15_code
noncomputable def yX12_here : MethodName := ⟨RX12, "here", "()I"⟩
noncomputable abbrev cX12_faults : ByteArray := prog_14_method_16_code
noncomputable def yX12_faults : MethodName := ⟨RX12, "faults", "(II)V"⟩
noncomputable abbrev cX12_goesWell : ByteArray := prog_14_method_17_code
noncomputable def yX12_goesWell : MethodName := ⟨RX12, "goesWell", "()Z"⟩
noncomputable abbrev cX12_mark : ByteArray := prog_14_method_18_code
noncomputable def yX12_mark : MethodName := ⟨RX12, "mark", "(I)V"⟩
noncomputable abbrev cX12_own : ByteArray := prog_14_method_19_code
noncomputable def yX12_own : MethodName := ⟨RX12, "own", "()I"⟩
noncomputable abbrev cX12_word : ByteArray := prog_14_method_20_code
noncomputable def yX12_word : MethodName := ⟨RX12, "word", "()V"⟩
noncomputable abbrev cX12_must : ByteArray := prog_14_method_21_code
noncomputable def yX12_must : MethodName := ⟨RX12, "must", "(I)V"⟩
noncomputable abbrev cX12_name : ByteArray := prog_14_method_22_code
noncomputable def yX12_name : MethodName := ⟨RX12, "name", "()I"⟩
noncomputable abbrev cX12_digits : ByteArray := prog_14_method_23_code
noncomputable def yX12_digits : MethodName := ⟨RX12, "digits", "()J"⟩
noncomputable abbrev cX12_number : ByteArray := prog_14_method_24_code
noncomputable def yX12_number : MethodName := ⟨RX12, "number", "(JJ)J"⟩
noncomputable abbrev cX12_signed : ByteArray := prog_14_method_25_code
noncomputable def yX12_signed : MethodName := ⟨RX12, "signed", "(JJ)J"⟩
noncomputable abbrev cX12_f : ByteArray := prog_14_method_26_code
noncomputable def yX12_f : MethodName := ⟨RX12, "f", "(I)I"⟩
noncomputable abbrev cX12_n : ByteArray := prog_14_method_27_code
noncomputable def yX12_n : MethodName := ⟨RX12, "n", "(I)I"⟩
noncomputable abbrev cX12_formatNamed : ByteArray := prog_14_method_28_code
noncomputable def yX12_formatNamed : MethodName := ⟨RX12, "formatNamed", "(I)I"⟩
noncomputable abbrev cX12_numberNamed : ByteArray := prog_14_method_29_code
noncomputable def yX12_numberNamed : MethodName := ⟨RX12, "numberNamed", "(I)I"⟩
noncomputable abbrev cX12_newName : ByteArray := prog_14_method_30_code
noncomputable def yX12_newName : MethodName := ⟨RX12, "newName", "()I"⟩
noncomputable abbrev cX12_toldNumber : ByteArray := prog_14_method_31_code
noncomputable def yX12_toldNumber : MethodName := ⟨RX12, "toldNumber", "()I"⟩
noncomputable abbrev cX12_readsFormat : ByteArray := prog_14_method_32_code
noncomputable def yX12_readsFormat : MethodName := ⟨RX12, "readsFormat", "()V"⟩
noncomputable abbrev cX12_newNumber : ByteArray := prog_14_method_33_code
noncomputable def yX12_newNumber : MethodName := ⟨RX12, "newNumber", "(II)V"⟩
noncomputable abbrev cX12_readsInput : ByteArray := prog_14_method_34_code
noncomputable def yX12_readsInput : MethodName := ⟨RX12, "readsInput", "()V"⟩
noncomputable abbrev cX12_readsWhat : ByteArray := prog_14_method_35_code
noncomputable def yX12_readsWhat : MethodName := ⟨RX12, "readsWhat", "()I"⟩
noncomputable abbrev cX12_readsOp : ByteArray := prog_14_method_36_code
noncomputable def yX12_readsOp : MethodName := ⟨RX12, "readsOp", "()I"⟩
noncomputable abbrev cX12_readsLet : ByteArray := prog_14_method_37_code
noncomputable def yX12_readsLet : MethodName := ⟨RX12, "readsLet", "()V"⟩
noncomputable abbrev cX12_readsFixed : ByteArray := prog_14_method_38_code
noncomputable def yX12_readsFixed : MethodName := ⟨RX12, "readsFixed", "()V"⟩
noncomputable abbrev cX12_readsGroup : ByteArray := prog_14_method_39_code
noncomputable def yX12_readsGroup : MethodName := ⟨RX12, "readsGroup", "()V"⟩
noncomputable abbrev cX12_readsAnswer : ByteArray := prog_14_method_40_code
noncomputable def yX12_readsAnswer : MethodName := ⟨RX12, "readsAnswer", "()V"⟩
noncomputable abbrev cX12_isBeginning : ByteArray := prog_14_method_41_code
noncomputable def yX12_isBeginning : MethodName := ⟨RX12, "isBeginning", "(I)Z"⟩
noncomputable abbrev cX12_readsStatement : ByteArray := prog_14_method_42_code
noncomputable def yX12_readsStatement : MethodName := ⟨RX12, "readsStatement", "(I)V"⟩
noncomputable abbrev cX12_copiesTask : ByteArray := prog_14_method_43_code
noncomputable def yX12_copiesTask : MethodName := ⟨RX12, "copiesTask", "()V"⟩
noncomputable abbrev cX12_task : ByteArray := prog_14_method_44_code
noncomputable def yX12_task : MethodName := ⟨RX12, "task", "()I"⟩
noncomputable abbrev cX12_fault : ByteArray := prog_14_method_45_code
noncomputable def yX12_fault : MethodName := ⟨RX12, "fault", "(I)I"⟩
noncomputable abbrev cX12_isNumber : ByteArray := prog_14_method_46_code
noncomputable def yX12_isNumber : MethodName := ⟨RX12, "isNumber", "(I)Z"⟩
noncomputable abbrev cX12_isFormat : ByteArray := prog_14_method_47_code
noncomputable def yX12_isFormat : MethodName := ⟨RX12, "isFormat", "(I)Z"⟩
noncomputable abbrev cX12_inputs : ByteArray := prog_14_method_48_code
noncomputable def yX12_inputs : MethodName := ⟨RX12, "inputs", "()I"⟩
noncomputable abbrev cX12_answers : ByteArray := prog_14_method_49_code
noncomputable def yX12_answers : MethodName := ⟨RX12, "answers", "()I"⟩
noncomputable abbrev cX12_groups : ByteArray := prog_14_method_50_code
noncomputable def yX12_groups : MethodName := ⟨RX12, "groups", "()I"⟩
noncomputable abbrev cX12_isFree : ByteArray := prog_14_method_51_code
noncomputable def yX12_isFree : MethodName := ⟨RX12, "isFree", "(I)Z"⟩
noncomputable abbrev cX12_laysFree : ByteArray := prog_14_method_52_code
noncomputable def yX12_laysFree : MethodName := ⟨RX12, "laysFree", "()V"⟩
noncomputable abbrev cX12_has : ByteArray := prog_14_method_53_code
noncomputable def yX12_has : MethodName := ⟨RX12, "has", "(I)I"⟩
noncomputable abbrev cX12_letter : ByteArray := prog_14_method_54_code
noncomputable def yX12_letter : MethodName := ⟨RX12, "letter", "(IZI)I"⟩
noncomputable abbrev cX12_format : ByteArray := prog_14_method_55_code
noncomputable def yX12_format : MethodName := ⟨RX12, "format", "(II)I"⟩
noncomputable abbrev cX12_groupPlace : ByteArray := prog_14_method_56_code
noncomputable def yX12_groupPlace : MethodName := ⟨RX12, "groupPlace", "(I)I"⟩
noncomputable abbrev cX12_number_ : ByteArray := prog_14_method_57_code
noncomputable def yX12_number_ : MethodName := ⟨RX12, "number", "(II)I"⟩
noncomputable abbrev cX12_told : ByteArray := prog_14_method_58_code
noncomputable def yX12_told : MethodName := ⟨RX12, "told", "(II)J"⟩
noncomputable abbrev cX12_rounded : ByteArray := prog_14_method_59_code
noncomputable def yX12_rounded : MethodName := ⟨RX12, "rounded", "(JJ)J"⟩
noncomputable abbrev cX12_roundedProduct : ByteArray := prog_14_method_60_code
noncomputable def yX12_roundedProduct : MethodName := ⟨RX12, "roundedProduct", "(JJJ)J"⟩
noncomputable abbrev cX12_two : ByteArray := prog_14_method_61_code
noncomputable def yX12_two : MethodName := ⟨RX12, "two", "(IJJJ)J"⟩
noncomputable abbrev cX12_lowOf : ByteArray := prog_14_method_62_code
noncomputable def yX12_lowOf : MethodName := ⟨RX12, "lowOf", "(IZ)J"⟩
noncomputable abbrev cX12_highOf : ByteArray := prog_14_method_63_code
noncomputable def yX12_highOf : MethodName := ⟨RX12, "highOf", "(IZ)J"⟩
noncomputable abbrev cX12_laysRange : ByteArray := prog_14_method_64_code
noncomputable def yX12_laysRange : MethodName := ⟨RX12, "laysRange", "(I)V"⟩
noncomputable abbrev cX12_mostOf : ByteArray := prog_14_method_65_code
noncomputable def yX12_mostOf : MethodName := ⟨RX12, "mostOf", "(I)J"⟩
noncomputable abbrev cX12_isGreatPart : ByteArray := prog_14_method_66_code
noncomputable def yX12_isGreatPart : MethodName := ⟨RX12, "isGreatPart", "(I)Z"⟩
noncomputable abbrev cX12_range : ByteArray := prog_14_method_67_code
noncomputable def yX12_range : MethodName := ⟨RX12, "range", "(IZ)J"⟩
noncomputable abbrev cX12_uses : ByteArray := prog_14_method_68_code
noncomputable def yX12_uses : MethodName := ⟨RX12, "uses", "(I)I"⟩
noncomputable abbrev cX12_deepOf : ByteArray := prog_14_method_69_code
noncomputable def yX12_deepOf : MethodName := ⟨RX12, "deepOf", "(I)I"⟩
noncomputable abbrev cX12_depth : ByteArray := prog_14_method_70_code
noncomputable def yX12_depth : MethodName := ⟨RX12, "depth", "(I)I"⟩
noncomputable abbrev cX12_beginsChoice : ByteArray := prog_14_method_71_code
noncomputable def yX12_beginsChoice : MethodName := ⟨RX12, "beginsChoice", "()V"⟩
noncomputable abbrev cX12_triesHand : ByteArray := prog_14_method_72_code
noncomputable def yX12_triesHand : MethodName := ⟨RX12, "triesHand", "()V"⟩
noncomputable abbrev cX12_triesGroup : ByteArray := prog_14_method_73_code
noncomputable def yX12_triesGroup : MethodName := ⟨RX12, "triesGroup", "(II)V"⟩
noncomputable abbrev cX12_castError : ByteArray := prog_14_method_74_code
noncomputable def yX12_castError : MethodName := ⟨RX12, "castError", "(IZ)J"⟩
noncomputable abbrev cX12_laysError : ByteArray := prog_14_method_75_code
noncomputable def yX12_laysError : MethodName := ⟨RX12, "laysError", "(I)V"⟩
noncomputable abbrev cX12_passes : ByteArray := prog_14_method_76_code
noncomputable def yX12_passes : MethodName := ⟨RX12, "passes", "()Z"⟩
noncomputable abbrev cX12_isCast : ByteArray := prog_14_method_77_code
noncomputable def yX12_isCast : MethodName := ⟨RX12, "isCast", "(II)Z"⟩
noncomputable abbrev cX12_castsTried : ByteArray := prog_14_method_78_code
noncomputable def yX12_castsTried : MethodName := ⟨RX12, "castsTried", "()I"⟩
noncomputable abbrev cX12_costTried : ByteArray := prog_14_method_79_code
noncomputable def yX12_costTried : MethodName := ⟨RX12, "costTried", "()I"⟩
noncomputable abbrev cX12_handPasses : ByteArray := prog_14_method_80_code
noncomputable def yX12_handPasses : MethodName := ⟨RX12, "handPasses", "()Z"⟩
noncomputable abbrev cX12_chosen : ByteArray := prog_14_method_81_code
noncomputable def yX12_chosen : MethodName := ⟨RX12, "chosen", "(I)I"⟩
noncomputable abbrev cX12_choose : ByteArray := prog_14_method_82_code
noncomputable def yX12_choose : MethodName := ⟨RX12, "choose", "(II)I"⟩
noncomputable abbrev cX12_isThere : ByteArray := prog_14_method_83_code
noncomputable def yX12_isThere : MethodName := ⟨RX12, "isThere", "()Z"⟩
noncomputable abbrev cX12_cost : ByteArray := prog_14_method_84_code
noncomputable def yX12_cost : MethodName := ⟨RX12, "cost", "()I"⟩
noncomputable abbrev cX12_casts : ByteArray := prog_14_method_85_code
noncomputable def yX12_casts : MethodName := ⟨RX12, "casts", "()I"⟩
noncomputable abbrev cX12_fails : ByteArray := prog_14_method_86_code
noncomputable def yX12_fails : MethodName := ⟨RX12, "fails", "()I"⟩
noncomputable abbrev cX12_why : ByteArray := prog_14_method_87_code
noncomputable def yX12_why : MethodName := ⟨RX12, "why", "()I"⟩
noncomputable abbrev cX12_error : ByteArray := prog_14_method_88_code
noncomputable def yX12_error : MethodName := ⟨RX12, "error", "(I)J"⟩
noncomputable abbrev cX12_isAnswer : ByteArray := prog_14_method_89_code
noncomputable def yX12_isAnswer : MethodName := ⟨RX12, "isAnswer", "(I)Z"⟩
noncomputable abbrev cX12_slack : ByteArray := prog_14_method_90_code
noncomputable def yX12_slack : MethodName := ⟨RX12, "slack", "(I)J"⟩
noncomputable abbrev cX12_widest : ByteArray := prog_14_method_91_code
noncomputable def yX12_widest : MethodName := ⟨RX12, "widest", "(I)I"⟩
noncomputable abbrev cX12_finest : ByteArray := prog_14_method_92_code
noncomputable def yX12_finest : MethodName := ⟨RX12, "finest", "()I"⟩
noncomputable abbrev cX12_blame : ByteArray := prog_14_method_93_code
noncomputable def yX12_blame : MethodName := ⟨RX12, "blame", "(II)J"⟩
noncomputable abbrev cX12_canSearch : ByteArray := prog_14_method_94_code
noncomputable def yX12_canSearch : MethodName := ⟨RX12, "canSearch", "()Z"⟩
noncomputable abbrev cX12_allChoices : ByteArray := prog_14_method_95_code
noncomputable def yX12_allChoices : MethodName := ⟨RX12, "allChoices", "()I"⟩
noncomputable abbrev cX12_triesChoice : ByteArray := prog_14_method_96_code
noncomputable def yX12_triesChoice : MethodName := ⟨RX12, "triesChoice", "(I)V"⟩
noncomputable abbrev cX12_cheapestChoice : ByteArray := prog_14_method_97_code
noncomputable def yX12_cheapestChoice : MethodName := ⟨RX12, "cheapestChoice", "()I"⟩
noncomputable abbrev cX12_cheapest : ByteArray := prog_14_method_98_code
noncomputable def yX12_cheapest : MethodName := ⟨RX12, "cheapest", "(I)I"⟩
noncomputable abbrev cX12_passing : ByteArray := prog_14_method_99_code
noncomputable def yX12_passing : MethodName := ⟨RX12, "passing", "()I"⟩
noncomputable abbrev cX12_keepsTried : ByteArray := prog_14_method_100_code
noncomputable def yX12_keepsTried : MethodName := ⟨RX12, "keepsTried", "()V"⟩
noncomputable abbrev cX12_isBetter : ByteArray := prog_14_method_101_code
noncomputable def yX12_isBetter : MethodName := ⟨RX12, "isBetter", "(III)Z"⟩
noncomputable abbrev cX12_halvesBy : ByteArray := prog_14_method_102_code
noncomputable def yX12_halvesBy : MethodName := ⟨RX12, "halvesBy", "(I)V"⟩
noncomputable abbrev cX12_halve : ByteArray := prog_14_method_103_code
noncomputable def yX12_halve : MethodName := ⟨RX12, "halve", "()Z"⟩
noncomputable abbrev cX12_halves : ByteArray := prog_14_method_104_code
noncomputable def yX12_halves : MethodName := ⟨RX12, "halves", "(I)I"⟩
noncomputable abbrev cX12_laysSingle : ByteArray := prog_14_method_105_code
noncomputable def yX12_laysSingle : MethodName := ⟨RX12, "laysSingle", "()V"⟩
noncomputable abbrev cX12_single : ByteArray := prog_14_method_106_code
noncomputable def yX12_single : MethodName := ⟨RX12, "single", "(I)I"⟩
noncomputable abbrev cX12_takesTried : ByteArray := prog_14_method_107_code
noncomputable def yX12_takesTried : MethodName := ⟨RX12, "takesTried", "()V"⟩
noncomputable abbrev cX12_canTake : ByteArray := prog_14_method_108_code
noncomputable def yX12_canTake : MethodName := ⟨RX12, "canTake", "(I)Z"⟩
noncomputable abbrev cX12_take : ByteArray := prog_14_method_109_code
noncomputable def yX12_take : MethodName := ⟨RX12, "take", "(I)I"⟩
noncomputable abbrev cX12_laysCouple : ByteArray := prog_14_method_110_code
noncomputable def yX12_laysCouple : MethodName := ⟨RX12, "laysCouple", "(IJ)V"⟩
noncomputable abbrev cX12_laysFront : ByteArray := prog_14_method_111_code
noncomputable def yX12_laysFront : MethodName := ⟨RX12, "laysFront", "(I)V"⟩
noncomputable abbrev cX12_front : ByteArray := prog_14_method_112_code
noncomputable def yX12_front : MethodName := ⟨RX12, "front", "(III)J"⟩
noncomputable abbrev cX12_least : ByteArray := prog_14_method_113_code
noncomputable def yX12_least : MethodName := ⟨RX12, "least", "(II)J"⟩
noncomputable abbrev cX12_byteOf : ByteArray := prog_14_method_114_code
noncomputable def yX12_byteOf : MethodName := ⟨RX12, "byteOf", "(JI)I"⟩
noncomputable abbrev cX12_certificate : ByteArray := prog_14_method_115_code
noncomputable def yX12_certificate : MethodName := ⟨RX12, "certificate", "(I)I"⟩
noncomputable abbrev cX12_readsLong : ByteArray := prog_14_method_116_code
noncomputable def yX12_readsLong : MethodName := ⟨RX12, "readsLong", "(I)J"⟩
noncomputable abbrev cX12_isFormatSaid : ByteArray := prog_14_method_117_code
noncomputable def yX12_isFormatSaid : MethodName := ⟨RX12, "isFormatSaid", "(I)Z"⟩
noncomputable abbrev cX12_breaks : ByteArray := prog_14_method_118_code
noncomputable def yX12_breaks : MethodName := ⟨RX12, "breaks", "(I)I"⟩
noncomputable abbrev cX12_check : ByteArray := prog_14_method_119_code
noncomputable def yX12_check : MethodName := ⟨RX12, "check", "()Z"⟩
noncomputable abbrev cX12_broken : ByteArray := prog_14_method_120_code
noncomputable def yX12_broken : MethodName := ⟨RX12, "broken", "(I)I"⟩
noncomputable abbrev cX12_draw : ByteArray := prog_14_method_121_code
noncomputable def yX12_draw : MethodName := ⟨RX12, "draw", "(J)J"⟩
noncomputable abbrev cX12_exactOf : ByteArray := prog_14_method_122_code
noncomputable def yX12_exactOf : MethodName := ⟨RX12, "exactOf", "(IZ)J"⟩
noncomputable abbrev cX12_castOf : ByteArray := prog_14_method_123_code
noncomputable def yX12_castOf : MethodName := ⟨RX12, "castOf", "(IZ)J"⟩
noncomputable abbrev cX12_triesOnce : ByteArray := prog_14_method_124_code
noncomputable def yX12_triesOnce : MethodName := ⟨RX12, "triesOnce", "()V"⟩
noncomputable abbrev cX12_trials : ByteArray := prog_14_method_125_code
noncomputable def yX12_trials : MethodName := ⟨RX12, "trials", "(II)J"⟩
noncomputable abbrev cX12_trial : ByteArray := prog_14_method_126_code
noncomputable def yX12_trial : MethodName := ⟨RX12, "trial", "(IZ)J"⟩
noncomputable abbrev cX12_seed : ByteArray := prog_14_method_127_code
noncomputable def yX12_seed : MethodName := ⟨RX12, "seed", "(I)Z"⟩
noncomputable abbrev cX12_status : ByteArray := prog_14_method_128_code
noncomputable def yX12_status : MethodName := ⟨RX12, "status", "(I)I"⟩
noncomputable def wsX12_isIn : List Cond := .code yX12_isIn cX12_isIn 6 (some .boolean) :: ([])
noncomputable def wsX12_amount : List Cond := .code yX12_amount cX12_amount 2 (some .long) :: ([])
noncomputable def wsX12_greater : List Cond := .code yX12_greater cX12_greater 4 (some .long) :: ([])
noncomputable def wsX12_lesser : List Cond := .code yX12_lesser cX12_lesser 4 (some .long) :: ([])
noncomputable def wsX12_floor : List Cond := .code yX12_floor cX12_floor 6 (some .long) :: ([])
noncomputable def wsX12_init_r1 : List Cond := [Cond.methodLink RX12 1 objectInit, Cond.instanceMethod objectInit, Cond.code objectInit ⟨#[0xb1]⟩ 1 none, Cond.arrayClass .int, Cond.fieldLink RX12 7 "ShortEnoughModel" "tape" "[I", Cond.fieldLink RX12 13 "ShortEnoughModel" "taped" "I", Cond.fieldLink RX12 17 "ShortEnoughModel" "refused" "[I", Cond.fieldLink RX12 20 "ShortEnoughModel" "faultKind" "I", Cond.fieldLink RX12 23 "ShortEnoughModel" "faultPlace" "I", Cond.fieldLink RX12 26 "ShortEnoughModel" "size" "I", Cond.fieldLink RX12 29 "ShortEnoughModel" "at" "I", Cond.fieldLink RX12 32 "ShortEnoughModel" "begun" "I", Cond.fieldLink RX12 35 "ShortEnoughModel" "wrong" "I", Cond.fieldLink RX12 38 "ShortEnoughModel" "wrongAt" "I", Cond.fieldLink RX12 41 "ShortEnoughModel" "ownLetters" "[I", Cond.fieldLink RX12 44 "ShortEnoughModel" "in" "I", Cond.fieldLink RX12 47 "ShortEnoughModel" "formats" "[I", Cond.fieldLink RX12 50 "ShortEnoughModel" "formatName" "[I", Cond.fieldLink RX12 53 "ShortEnoughModel" "step" "[I", Cond.fieldLink RX12 56 "ShortEnoughModel" "most" "[I", Cond.fieldLink RX12 59 "ShortEnoughModel" "formatCost" "[I", Cond.fieldLink RX12 62 "ShortEnoughModel" "numbers" "[I", Cond.fieldLink RX12 65 "ShortEnoughModel" "numberName" "[I", Cond.fieldLink RX12 68 "ShortEnoughModel" "op" "[I"]
noncomputable def wsX12_init_r2 : List Cond := [Cond.fieldLink RX12 71 "ShortEnoughModel" "first" "[I", Cond.fieldLink RX12 74 "ShortEnoughModel" "second" "[I", Cond.arrayClass .long, Cond.fieldLink RX12 77 "ShortEnoughModel" "firstV" "[J", Cond.fieldLink RX12 81 "ShortEnoughModel" "secondV" "[J", Cond.fieldLink RX12 84 "ShortEnoughModel" "castCost" "[I", Cond.fieldLink RX12 87 "ShortEnoughModel" "fixedAs" "[I", Cond.fieldLink RX12 90 "ShortEnoughModel" "within" "[I", Cond.fieldLink RX12 93 "ShortEnoughModel" "groupOf" "[I", Cond.fieldLink RX12 96 "ShortEnoughModel" "whatV" "J", Cond.fieldLink RX12 100 "ShortEnoughModel" "free" "[I", Cond.fieldLink RX12 103 "ShortEnoughModel" "freeMany" "I", Cond.fieldLink RX12 106 "ShortEnoughModel" "least" "[J", Cond.fieldLink RX12 109 "ShortEnoughModel" "greatest" "[J", Cond.fieldLink RX12 112 "ShortEnoughModel" "wideNumber" "I", Cond.fieldLink RX12 115 "ShortEnoughModel" "wideBy" "J", Cond.arrayClass .boolean, Cond.fieldLink RX12 118 "ShortEnoughModel" "isGreat" "[Z", Cond.fieldLink RX12 122 "ShortEnoughModel" "deep" "[I", Cond.fieldLink RX12 125 "ShortEnoughModel" "hand" "[I", Cond.fieldLink RX12 128 "ShortEnoughModel" "hasHand" "Z", Cond.fieldLink RX12 132 "ShortEnoughModel" "tried" "[I", Cond.fieldLink RX12 135 "ShortEnoughModel" "error" "[J", Cond.fieldLink RX12 138 "ShortEnoughModel" "failsAt" "I"]
noncomputable def wsX12_init_r3 : List Cond := [Cond.fieldLink RX12 141 "ShortEnoughModel" "failsWhy" "I", Cond.fieldLink RX12 144 "ShortEnoughModel" "soFar" "[I", Cond.fieldLink RX12 147 "ShortEnoughModel" "soFarCost" "I", Cond.fieldLink RX12 150 "ShortEnoughModel" "tries" "I", Cond.fieldLink RX12 153 "ShortEnoughModel" "hasChanged" "[Z", Cond.fieldLink RX12 156 "ShortEnoughModel" "row" "[I", Cond.fieldLink RX12 159 "ShortEnoughModel" "partFrom" "[I", Cond.fieldLink RX12 162 "ShortEnoughModel" "partMany" "[I", Cond.fieldLink RX12 165 "ShortEnoughModel" "singlePass" "I", Cond.fieldLink RX12 168 "ShortEnoughModel" "singleLess" "I", Cond.fieldLink RX12 171 "ShortEnoughModel" "singleGroup" "I", Cond.fieldLink RX12 174 "ShortEnoughModel" "singleFormat" "I", Cond.fieldLink RX12 177 "ShortEnoughModel" "frontCost" "[I", Cond.fieldLink RX12 180 "ShortEnoughModel" "frontError" "[J", Cond.fieldLink RX12 183 "ShortEnoughModel" "frontMany" "[I", Cond.fieldLink RX12 186 "ShortEnoughModel" "fronts" "I", Cond.fieldLink RX12 189 "ShortEnoughModel" "brokenAt" "I", Cond.fieldLink RX12 192 "ShortEnoughModel" "brokenWhy" "I", Cond.fieldLink RX12 195 "ShortEnoughModel" "saysFormat" "[I", Cond.fieldLink RX12 198 "ShortEnoughModel" "saysLeast" "[J", Cond.fieldLink RX12 201 "ShortEnoughModel" "saysGreatest" "[J", Cond.fieldLink RX12 204 "ShortEnoughModel" "saysError" "[J", Cond.fieldLink RX12 207 "ShortEnoughModel" "seedNow" "I", Cond.fieldLink RX12 210 "ShortEnoughModel" "exact" "[J"]
noncomputable def wsX12_init_r4 : List Cond := [Cond.fieldLink RX12 213 "ShortEnoughModel" "keptAs" "[J"]
noncomputable def wsX12_init : List Cond := .code yX12_init cX12_init 1 none :: ((wsX12_init_r1 ++ (wsX12_init_r2 ++ (wsX12_init_r3 ++ wsX12_init_r4))) ++ wsX120)
noncomputable def wsX12_refuses : List Cond := .code yX12_refuses cX12_refuses 2 (some .int) :: ([Cond.fieldLink RX12 17 "ShortEnoughModel" "refused" "[I"] ++ wsX120)
noncomputable def wsX12_isRefused : List Cond := .code yX12_isRefused cX12_isRefused 2 (some .boolean) :: ([Cond.fieldLink RX12 17 "ShortEnoughModel" "refused" "[I"] ++ wsX120)
noncomputable def wsX12_lays : List Cond := .code yX12_lays cX12_lays 3 none :: ([Cond.fieldLink RX12 7 "ShortEnoughModel" "tape" "[I", Cond.fieldLink RX12 13 "ShortEnoughModel" "taped" "I"] ++ wsX120)
noncomputable def wsX12_feed : List Cond := .code yX12_feed cX12_feed 6 (some .int) :: ([Cond.fieldLink RX12 13 "ShortEnoughModel" "taped" "I", Cond.methodLink RX12 216 yX12_refuses, Cond.instanceMethod yX12_refuses, Cond.selects RX12 yX12_refuses yX12_refuses, Cond.initialized RX12, Cond.code yX12_refuses cX12_refuses 2 (some .int), Cond.fieldLink RX12 17 "ShortEnoughModel" "refused" "[I", Cond.methodLink RX12 220 yX12_lays, Cond.instanceMethod yX12_lays, Cond.selects RX12 yX12_lays yX12_lays, Cond.code yX12_lays cX12_lays 3 none, Cond.fieldLink RX12 7 "ShortEnoughModel" "tape" "[I"] ++ wsX120)
noncomputable def wsX12_end : List Cond := .code yX12_end cX12_end 2 (some .boolean) :: ([Cond.fieldLink RX12 13 "ShortEnoughModel" "taped" "I", Cond.methodLink RX12 224 yX12_isRefused, Cond.instanceMethod yX12_isRefused, Cond.selects RX12 yX12_isRefused yX12_isRefused, Cond.initialized RX12, Cond.code yX12_isRefused cX12_isRefused 2 (some .boolean), Cond.fieldLink RX12 17 "ShortEnoughModel" "refused" "[I"] ++ wsX120)
noncomputable def wsX12_byteAt : List Cond := .code yX12_byteAt cX12_byteAt 2 (some .int) :: ([Cond.fieldLink RX12 26 "ShortEnoughModel" "size" "I", Cond.fieldLink RX12 7 "ShortEnoughModel" "tape" "[I"] ++ wsX120)
noncomputable def wsX12_isSmall : List Cond := .code yX12_isSmall cX12_isSmall 2 (some .boolean) :: ([Cond.methodLink RX12 228 yX12_byteAt, Cond.instanceMethod yX12_byteAt, Cond.selects RX12 yX12_byteAt yX12_byteAt, Cond.initialized RX12, Cond.code yX12_byteAt cX12_byteAt 2 (some .int), Cond.fieldLink RX12 26 "ShortEnoughModel" "size" "I", Cond.fieldLink RX12 7 "ShortEnoughModel" "tape" "[I"] ++ wsX120)
noncomputable def wsX12_isDigit : List Cond := .code yX12_isDigit cX12_isDigit 2 (some .boolean) :: ([Cond.methodLink RX12 228 yX12_byteAt, Cond.instanceMethod yX12_byteAt, Cond.selects RX12 yX12_byteAt yX12_byteAt, Cond.initialized RX12, Cond.code yX12_byteAt cX12_byteAt 2 (some .int), Cond.fieldLink RX12 26 "ShortEnoughModel" "size" "I", Cond.fieldLink RX12 7 "ShortEnoughModel" "tape" "[I"] ++ wsX120)
noncomputable def wsX12_here : List Cond := .code yX12_here cX12_here 1 (some .int) :: ([Cond.fieldLink RX12 29 "ShortEnoughModel" "at" "I", Cond.methodLink RX12 228 yX12_byteAt, Cond.instanceMethod yX12_byteAt, Cond.selects RX12 yX12_byteAt yX12_byteAt, Cond.initialized RX12, Cond.code yX12_byteAt cX12_byteAt 2 (some .int), Cond.fieldLink RX12 26 "ShortEnoughModel" "size" "I", Cond.fieldLink RX12 7 "ShortEnoughModel" "tape" "[I"] ++ wsX120)
noncomputable def wsX12_faults : List Cond := .code yX12_faults cX12_faults 3 none :: ([Cond.fieldLink RX12 35 "ShortEnoughModel" "wrong" "I", Cond.fieldLink RX12 38 "ShortEnoughModel" "wrongAt" "I"] ++ wsX120)
noncomputable def wsX12_goesWell : List Cond := .code yX12_goesWell cX12_goesWell 1 (some .boolean) :: ([Cond.fieldLink RX12 35 "ShortEnoughModel" "wrong" "I"] ++ wsX120)
noncomputable def wsX12_mark : List Cond := .code yX12_mark cX12_mark 2 none :: ([Cond.fieldLink RX12 29 "ShortEnoughModel" "at" "I", Cond.methodLink RX12 231 yX12_goesWell, Cond.instanceMethod yX12_goesWell, Cond.selects RX12 yX12_goesWell yX12_goesWell, Cond.initialized RX12, Cond.code yX12_goesWell cX12_goesWell 1 (some .boolean), Cond.fieldLink RX12 35 "ShortEnoughModel" "wrong" "I", Cond.methodLink RX12 235 yX12_here, Cond.instanceMethod yX12_here, Cond.selects RX12 yX12_here yX12_here, Cond.code yX12_here cX12_here 1 (some .int), Cond.methodLink RX12 228 yX12_byteAt, Cond.instanceMethod yX12_byteAt, Cond.selects RX12 yX12_byteAt yX12_byteAt, Cond.code yX12_byteAt cX12_byteAt 2 (some .int), Cond.fieldLink RX12 26 "ShortEnoughModel" "size" "I", Cond.fieldLink RX12 7 "ShortEnoughModel" "tape" "[I", Cond.methodLink RX12 239 yX12_faults, Cond.instanceMethod yX12_faults, Cond.selects RX12 yX12_faults yX12_faults, Cond.code yX12_faults cX12_faults 3 none, Cond.fieldLink RX12 38 "ShortEnoughModel" "wrongAt" "I"] ++ wsX120)
noncomputable def wsX12_own : List Cond := .code yX12_own cX12_own 4 (some .int) :: ([Cond.fieldLink RX12 41 "ShortEnoughModel" "ownLetters" "[I", Cond.fieldLink RX12 32 "ShortEnoughModel" "begun" "I", Cond.fieldLink RX12 29 "ShortEnoughModel" "at" "I", Cond.fieldLink RX12 7 "ShortEnoughModel" "tape" "[I"] ++ wsX120)
noncomputable def wsX12_word_r1 : List Cond := [Cond.fieldLink RX12 29 "ShortEnoughModel" "at" "I", Cond.fieldLink RX12 32 "ShortEnoughModel" "begun" "I", Cond.methodLink RX12 231 yX12_goesWell, Cond.instanceMethod yX12_goesWell, Cond.selects RX12 yX12_goesWell yX12_goesWell, Cond.initialized RX12, Cond.code yX12_goesWell cX12_goesWell 1 (some .boolean), Cond.fieldLink RX12 35 "ShortEnoughModel" "wrong" "I", Cond.methodLink RX12 235 yX12_here, Cond.instanceMethod yX12_here, Cond.selects RX12 yX12_here yX12_here, Cond.code yX12_here cX12_here 1 (some .int), Cond.methodLink RX12 228 yX12_byteAt, Cond.instanceMethod yX12_byteAt, Cond.selects RX12 yX12_byteAt yX12_byteAt, Cond.code yX12_byteAt cX12_byteAt 2 (some .int), Cond.fieldLink RX12 26 "ShortEnoughModel" "size" "I", Cond.fieldLink RX12 7 "ShortEnoughModel" "tape" "[I", Cond.methodLink RX12 243 yX12_isSmall, Cond.instanceMethod yX12_isSmall, Cond.selects RX12 yX12_isSmall yX12_isSmall, Cond.code yX12_isSmall cX12_isSmall 2 (some .boolean), Cond.methodLink RX12 246 yX12_isDigit, Cond.instanceMethod yX12_isDigit]
noncomputable def wsX12_word_r2 : List Cond := [Cond.selects RX12 yX12_isDigit yX12_isDigit, Cond.code yX12_isDigit cX12_isDigit 2 (some .boolean), Cond.methodLink RX12 239 yX12_faults, Cond.instanceMethod yX12_faults, Cond.selects RX12 yX12_faults yX12_faults, Cond.code yX12_faults cX12_faults 3 none, Cond.fieldLink RX12 38 "ShortEnoughModel" "wrongAt" "I"]
noncomputable def wsX12_word : List Cond := .code yX12_word cX12_word 1 none :: ((wsX12_word_r1 ++ wsX12_word_r2) ++ wsX120)
noncomputable def wsX12_must_r1 : List Cond := [Cond.fieldLink RX12 32 "ShortEnoughModel" "begun" "I", Cond.methodLink RX12 249 yX12_word, Cond.instanceMethod yX12_word, Cond.selects RX12 yX12_word yX12_word, Cond.initialized RX12, Cond.code yX12_word cX12_word 1 none, Cond.fieldLink RX12 29 "ShortEnoughModel" "at" "I", Cond.methodLink RX12 231 yX12_goesWell, Cond.instanceMethod yX12_goesWell, Cond.selects RX12 yX12_goesWell yX12_goesWell, Cond.code yX12_goesWell cX12_goesWell 1 (some .boolean), Cond.fieldLink RX12 35 "ShortEnoughModel" "wrong" "I", Cond.methodLink RX12 235 yX12_here, Cond.instanceMethod yX12_here, Cond.selects RX12 yX12_here yX12_here, Cond.code yX12_here cX12_here 1 (some .int), Cond.methodLink RX12 228 yX12_byteAt, Cond.instanceMethod yX12_byteAt, Cond.selects RX12 yX12_byteAt yX12_byteAt, Cond.code yX12_byteAt cX12_byteAt 2 (some .int), Cond.fieldLink RX12 26 "ShortEnoughModel" "size" "I", Cond.fieldLink RX12 7 "ShortEnoughModel" "tape" "[I", Cond.methodLink RX12 243 yX12_isSmall, Cond.instanceMethod yX12_isSmall]
noncomputable def wsX12_must_r2 : List Cond := [Cond.selects RX12 yX12_isSmall yX12_isSmall, Cond.code yX12_isSmall cX12_isSmall 2 (some .boolean), Cond.methodLink RX12 246 yX12_isDigit, Cond.instanceMethod yX12_isDigit, Cond.selects RX12 yX12_isDigit yX12_isDigit, Cond.code yX12_isDigit cX12_isDigit 2 (some .boolean), Cond.methodLink RX12 239 yX12_faults, Cond.instanceMethod yX12_faults, Cond.selects RX12 yX12_faults yX12_faults, Cond.code yX12_faults cX12_faults 3 none, Cond.fieldLink RX12 38 "ShortEnoughModel" "wrongAt" "I", Cond.methodLink RX12 252 yX12_own, Cond.instanceMethod yX12_own, Cond.selects RX12 yX12_own yX12_own, Cond.code yX12_own cX12_own 4 (some .int), Cond.fieldLink RX12 41 "ShortEnoughModel" "ownLetters" "[I"]
noncomputable def wsX12_must : List Cond := .code yX12_must cX12_must 2 none :: ((wsX12_must_r1 ++ wsX12_must_r2) ++ wsX120)
noncomputable def wsX12_name_r1 : List Cond := [Cond.fieldLink RX12 29 "ShortEnoughModel" "at" "I", Cond.fieldLink RX12 32 "ShortEnoughModel" "begun" "I", Cond.fieldLink RX12 7 "ShortEnoughModel" "tape" "[I", Cond.methodLink RX12 249 yX12_word, Cond.instanceMethod yX12_word, Cond.selects RX12 yX12_word yX12_word, Cond.initialized RX12, Cond.code yX12_word cX12_word 1 none, Cond.methodLink RX12 231 yX12_goesWell, Cond.instanceMethod yX12_goesWell, Cond.selects RX12 yX12_goesWell yX12_goesWell, Cond.code yX12_goesWell cX12_goesWell 1 (some .boolean), Cond.fieldLink RX12 35 "ShortEnoughModel" "wrong" "I", Cond.methodLink RX12 235 yX12_here, Cond.instanceMethod yX12_here, Cond.selects RX12 yX12_here yX12_here, Cond.code yX12_here cX12_here 1 (some .int), Cond.methodLink RX12 228 yX12_byteAt, Cond.instanceMethod yX12_byteAt, Cond.selects RX12 yX12_byteAt yX12_byteAt, Cond.code yX12_byteAt cX12_byteAt 2 (some .int), Cond.fieldLink RX12 26 "ShortEnoughModel" "size" "I", Cond.methodLink RX12 243 yX12_isSmall, Cond.instanceMethod yX12_isSmall]
noncomputable def wsX12_name_r2 : List Cond := [Cond.selects RX12 yX12_isSmall yX12_isSmall, Cond.code yX12_isSmall cX12_isSmall 2 (some .boolean), Cond.methodLink RX12 246 yX12_isDigit, Cond.instanceMethod yX12_isDigit, Cond.selects RX12 yX12_isDigit yX12_isDigit, Cond.code yX12_isDigit cX12_isDigit 2 (some .boolean), Cond.methodLink RX12 239 yX12_faults, Cond.instanceMethod yX12_faults, Cond.selects RX12 yX12_faults yX12_faults, Cond.code yX12_faults cX12_faults 3 none, Cond.fieldLink RX12 38 "ShortEnoughModel" "wrongAt" "I", Cond.methodLink RX12 252 yX12_own, Cond.instanceMethod yX12_own, Cond.selects RX12 yX12_own yX12_own, Cond.code yX12_own cX12_own 4 (some .int), Cond.fieldLink RX12 41 "ShortEnoughModel" "ownLetters" "[I"]
noncomputable def wsX12_name : List Cond := .code yX12_name cX12_name 3 (some .int) :: ((wsX12_name_r1 ++ wsX12_name_r2) ++ wsX120)
noncomputable def wsX12_digits_r1 : List Cond := [Cond.fieldLink RX12 29 "ShortEnoughModel" "at" "I", Cond.fieldLink RX12 32 "ShortEnoughModel" "begun" "I", Cond.constantLong RX12 255 (10), Cond.constantLong RX12 257 (48), Cond.methodLink RX12 231 yX12_goesWell, Cond.instanceMethod yX12_goesWell, Cond.selects RX12 yX12_goesWell yX12_goesWell, Cond.initialized RX12, Cond.code yX12_goesWell cX12_goesWell 1 (some .boolean), Cond.fieldLink RX12 35 "ShortEnoughModel" "wrong" "I", Cond.methodLink RX12 235 yX12_here, Cond.instanceMethod yX12_here, Cond.selects RX12 yX12_here yX12_here, Cond.code yX12_here cX12_here 1 (some .int), Cond.methodLink RX12 228 yX12_byteAt, Cond.instanceMethod yX12_byteAt, Cond.selects RX12 yX12_byteAt yX12_byteAt, Cond.code yX12_byteAt cX12_byteAt 2 (some .int), Cond.fieldLink RX12 26 "ShortEnoughModel" "size" "I", Cond.fieldLink RX12 7 "ShortEnoughModel" "tape" "[I", Cond.methodLink RX12 246 yX12_isDigit, Cond.instanceMethod yX12_isDigit, Cond.selects RX12 yX12_isDigit yX12_isDigit, Cond.code yX12_isDigit cX12_isDigit 2 (some .boolean)]
noncomputable def wsX12_digits_r2 : List Cond := [Cond.methodLink RX12 243 yX12_isSmall, Cond.instanceMethod yX12_isSmall, Cond.selects RX12 yX12_isSmall yX12_isSmall, Cond.code yX12_isSmall cX12_isSmall 2 (some .boolean), Cond.methodLink RX12 239 yX12_faults, Cond.instanceMethod yX12_faults, Cond.selects RX12 yX12_faults yX12_faults, Cond.code yX12_faults cX12_faults 3 none, Cond.fieldLink RX12 38 "ShortEnoughModel" "wrongAt" "I"]
noncomputable def wsX12_digits : List Cond := .code yX12_digits cX12_digits 3 (some .long) :: ((wsX12_digits_r1 ++ wsX12_digits_r2) ++ wsX120)
noncomputable def wsX12_number_r1 : List Cond := [Cond.fieldLink RX12 32 "ShortEnoughModel" "begun" "I", Cond.methodLink RX12 259 yX12_digits, Cond.instanceMethod yX12_digits, Cond.selects RX12 yX12_digits yX12_digits, Cond.initialized RX12, Cond.code yX12_digits cX12_digits 3 (some .long), Cond.fieldLink RX12 29 "ShortEnoughModel" "at" "I", Cond.constantLong RX12 255 (10), Cond.constantLong RX12 257 (48), Cond.methodLink RX12 231 yX12_goesWell, Cond.instanceMethod yX12_goesWell, Cond.selects RX12 yX12_goesWell yX12_goesWell, Cond.code yX12_goesWell cX12_goesWell 1 (some .boolean), Cond.fieldLink RX12 35 "ShortEnoughModel" "wrong" "I", Cond.methodLink RX12 235 yX12_here, Cond.instanceMethod yX12_here, Cond.selects RX12 yX12_here yX12_here, Cond.code yX12_here cX12_here 1 (some .int), Cond.methodLink RX12 228 yX12_byteAt, Cond.instanceMethod yX12_byteAt, Cond.selects RX12 yX12_byteAt yX12_byteAt, Cond.code yX12_byteAt cX12_byteAt 2 (some .int), Cond.fieldLink RX12 26 "ShortEnoughModel" "size" "I", Cond.fieldLink RX12 7 "ShortEnoughModel" "tape" "[I"]
noncomputable def wsX12_number_r2 : List Cond := [Cond.methodLink RX12 246 yX12_isDigit, Cond.instanceMethod yX12_isDigit, Cond.selects RX12 yX12_isDigit yX12_isDigit, Cond.code yX12_isDigit cX12_isDigit 2 (some .boolean), Cond.methodLink RX12 243 yX12_isSmall, Cond.instanceMethod yX12_isSmall, Cond.selects RX12 yX12_isSmall yX12_isSmall, Cond.code yX12_isSmall cX12_isSmall 2 (some .boolean), Cond.methodLink RX12 239 yX12_faults, Cond.instanceMethod yX12_faults, Cond.selects RX12 yX12_faults yX12_faults, Cond.code yX12_faults cX12_faults 3 none, Cond.fieldLink RX12 38 "ShortEnoughModel" "wrongAt" "I", Cond.methodLink RX12 263 yX12_isIn, Cond.static yX12_isIn, Cond.code yX12_isIn cX12_isIn 6 (some .boolean)]
noncomputable def wsX12_number : List Cond := .code yX12_number cX12_number 7 (some .long) :: ((wsX12_number_r1 ++ wsX12_number_r2) ++ wsX120)
noncomputable def wsX12_signed_r1 : List Cond := [Cond.fieldLink RX12 29 "ShortEnoughModel" "at" "I", Cond.fieldLink RX12 32 "ShortEnoughModel" "begun" "I", Cond.methodLink RX12 231 yX12_goesWell, Cond.instanceMethod yX12_goesWell, Cond.selects RX12 yX12_goesWell yX12_goesWell, Cond.initialized RX12, Cond.code yX12_goesWell cX12_goesWell 1 (some .boolean), Cond.fieldLink RX12 35 "ShortEnoughModel" "wrong" "I", Cond.methodLink RX12 235 yX12_here, Cond.instanceMethod yX12_here, Cond.selects RX12 yX12_here yX12_here, Cond.code yX12_here cX12_here 1 (some .int), Cond.methodLink RX12 228 yX12_byteAt, Cond.instanceMethod yX12_byteAt, Cond.selects RX12 yX12_byteAt yX12_byteAt, Cond.code yX12_byteAt cX12_byteAt 2 (some .int), Cond.fieldLink RX12 26 "ShortEnoughModel" "size" "I", Cond.fieldLink RX12 7 "ShortEnoughModel" "tape" "[I", Cond.methodLink RX12 259 yX12_digits, Cond.instanceMethod yX12_digits, Cond.selects RX12 yX12_digits yX12_digits, Cond.code yX12_digits cX12_digits 3 (some .long), Cond.constantLong RX12 255 (10), Cond.constantLong RX12 257 (48)]
noncomputable def wsX12_signed_r2 : List Cond := [Cond.methodLink RX12 246 yX12_isDigit, Cond.instanceMethod yX12_isDigit, Cond.selects RX12 yX12_isDigit yX12_isDigit, Cond.code yX12_isDigit cX12_isDigit 2 (some .boolean), Cond.methodLink RX12 243 yX12_isSmall, Cond.instanceMethod yX12_isSmall, Cond.selects RX12 yX12_isSmall yX12_isSmall, Cond.code yX12_isSmall cX12_isSmall 2 (some .boolean), Cond.methodLink RX12 239 yX12_faults, Cond.instanceMethod yX12_faults, Cond.selects RX12 yX12_faults yX12_faults, Cond.code yX12_faults cX12_faults 3 none, Cond.fieldLink RX12 38 "ShortEnoughModel" "wrongAt" "I", Cond.methodLink RX12 263 yX12_isIn, Cond.static yX12_isIn, Cond.code yX12_isIn cX12_isIn 6 (some .boolean)]
noncomputable def wsX12_signed : List Cond := .code yX12_signed cX12_signed 9 (some .long) :: ((wsX12_signed_r1 ++ wsX12_signed_r2) ++ wsX120)
noncomputable def wsX12_f : List Cond := .code yX12_f cX12_f 2 (some .int) :: ([Cond.fieldLink RX12 44 "ShortEnoughModel" "in" "I"] ++ wsX120)
noncomputable def wsX12_n : List Cond := .code yX12_n cX12_n 2 (some .int) :: ([Cond.fieldLink RX12 44 "ShortEnoughModel" "in" "I"] ++ wsX120)
noncomputable def wsX12_formatNamed : List Cond := .code yX12_formatNamed cX12_formatNamed 3 (some .int) :: ([Cond.fieldLink RX12 47 "ShortEnoughModel" "formats" "[I", Cond.fieldLink RX12 44 "ShortEnoughModel" "in" "I", Cond.fieldLink RX12 50 "ShortEnoughModel" "formatName" "[I", Cond.methodLink RX12 267 yX12_f, Cond.instanceMethod yX12_f, Cond.selects RX12 yX12_f yX12_f, Cond.initialized RX12, Cond.code yX12_f cX12_f 2 (some .int)] ++ wsX120)
noncomputable def wsX12_numberNamed : List Cond := .code yX12_numberNamed cX12_numberNamed 3 (some .int) :: ([Cond.fieldLink RX12 62 "ShortEnoughModel" "numbers" "[I", Cond.fieldLink RX12 44 "ShortEnoughModel" "in" "I", Cond.fieldLink RX12 65 "ShortEnoughModel" "numberName" "[I", Cond.methodLink RX12 270 yX12_n, Cond.instanceMethod yX12_n, Cond.selects RX12 yX12_n yX12_n, Cond.initialized RX12, Cond.code yX12_n cX12_n 2 (some .int)] ++ wsX120)
noncomputable def wsX12_newName_r1 : List Cond := [Cond.fieldLink RX12 32 "ShortEnoughModel" "begun" "I", Cond.methodLink RX12 273 yX12_name, Cond.instanceMethod yX12_name, Cond.selects RX12 yX12_name yX12_name, Cond.initialized RX12, Cond.code yX12_name cX12_name 3 (some .int), Cond.fieldLink RX12 29 "ShortEnoughModel" "at" "I", Cond.fieldLink RX12 7 "ShortEnoughModel" "tape" "[I", Cond.methodLink RX12 249 yX12_word, Cond.instanceMethod yX12_word, Cond.selects RX12 yX12_word yX12_word, Cond.code yX12_word cX12_word 1 none, Cond.methodLink RX12 231 yX12_goesWell, Cond.instanceMethod yX12_goesWell, Cond.selects RX12 yX12_goesWell yX12_goesWell, Cond.code yX12_goesWell cX12_goesWell 1 (some .boolean), Cond.fieldLink RX12 35 "ShortEnoughModel" "wrong" "I", Cond.methodLink RX12 235 yX12_here, Cond.instanceMethod yX12_here, Cond.selects RX12 yX12_here yX12_here, Cond.code yX12_here cX12_here 1 (some .int), Cond.methodLink RX12 228 yX12_byteAt, Cond.instanceMethod yX12_byteAt, Cond.selects RX12 yX12_byteAt yX12_byteAt]
noncomputable def wsX12_newName_r2 : List Cond := [Cond.code yX12_byteAt cX12_byteAt 2 (some .int), Cond.fieldLink RX12 26 "ShortEnoughModel" "size" "I", Cond.methodLink RX12 243 yX12_isSmall, Cond.instanceMethod yX12_isSmall, Cond.selects RX12 yX12_isSmall yX12_isSmall, Cond.code yX12_isSmall cX12_isSmall 2 (some .boolean), Cond.methodLink RX12 246 yX12_isDigit, Cond.instanceMethod yX12_isDigit, Cond.selects RX12 yX12_isDigit yX12_isDigit, Cond.code yX12_isDigit cX12_isDigit 2 (some .boolean), Cond.methodLink RX12 239 yX12_faults, Cond.instanceMethod yX12_faults, Cond.selects RX12 yX12_faults yX12_faults, Cond.code yX12_faults cX12_faults 3 none, Cond.fieldLink RX12 38 "ShortEnoughModel" "wrongAt" "I", Cond.methodLink RX12 252 yX12_own, Cond.instanceMethod yX12_own, Cond.selects RX12 yX12_own yX12_own, Cond.code yX12_own cX12_own 4 (some .int), Cond.fieldLink RX12 41 "ShortEnoughModel" "ownLetters" "[I", Cond.methodLink RX12 276 yX12_formatNamed, Cond.instanceMethod yX12_formatNamed, Cond.selects RX12 yX12_formatNamed yX12_formatNamed, Cond.code yX12_formatNamed cX12_formatNamed 3 (some .int)]
noncomputable def wsX12_newName_r3 : List Cond := [Cond.fieldLink RX12 47 "ShortEnoughModel" "formats" "[I", Cond.fieldLink RX12 44 "ShortEnoughModel" "in" "I", Cond.fieldLink RX12 50 "ShortEnoughModel" "formatName" "[I", Cond.methodLink RX12 267 yX12_f, Cond.instanceMethod yX12_f, Cond.selects RX12 yX12_f yX12_f, Cond.code yX12_f cX12_f 2 (some .int), Cond.methodLink RX12 279 yX12_numberNamed, Cond.instanceMethod yX12_numberNamed, Cond.selects RX12 yX12_numberNamed yX12_numberNamed, Cond.code yX12_numberNamed cX12_numberNamed 3 (some .int), Cond.fieldLink RX12 62 "ShortEnoughModel" "numbers" "[I", Cond.fieldLink RX12 65 "ShortEnoughModel" "numberName" "[I", Cond.methodLink RX12 270 yX12_n, Cond.instanceMethod yX12_n, Cond.selects RX12 yX12_n yX12_n, Cond.code yX12_n cX12_n 2 (some .int)]
noncomputable def wsX12_newName : List Cond := .code yX12_newName cX12_newName 2 (some .int) :: ((wsX12_newName_r1 ++ (wsX12_newName_r2 ++ wsX12_newName_r3)) ++ wsX120)
noncomputable def wsX12_toldNumber_r1 : List Cond := [Cond.fieldLink RX12 32 "ShortEnoughModel" "begun" "I", Cond.methodLink RX12 273 yX12_name, Cond.instanceMethod yX12_name, Cond.selects RX12 yX12_name yX12_name, Cond.initialized RX12, Cond.code yX12_name cX12_name 3 (some .int), Cond.fieldLink RX12 29 "ShortEnoughModel" "at" "I", Cond.fieldLink RX12 7 "ShortEnoughModel" "tape" "[I", Cond.methodLink RX12 249 yX12_word, Cond.instanceMethod yX12_word, Cond.selects RX12 yX12_word yX12_word, Cond.code yX12_word cX12_word 1 none, Cond.methodLink RX12 231 yX12_goesWell, Cond.instanceMethod yX12_goesWell, Cond.selects RX12 yX12_goesWell yX12_goesWell, Cond.code yX12_goesWell cX12_goesWell 1 (some .boolean), Cond.fieldLink RX12 35 "ShortEnoughModel" "wrong" "I", Cond.methodLink RX12 235 yX12_here, Cond.instanceMethod yX12_here, Cond.selects RX12 yX12_here yX12_here, Cond.code yX12_here cX12_here 1 (some .int), Cond.methodLink RX12 228 yX12_byteAt, Cond.instanceMethod yX12_byteAt, Cond.selects RX12 yX12_byteAt yX12_byteAt]
noncomputable def wsX12_toldNumber_r2 : List Cond := [Cond.code yX12_byteAt cX12_byteAt 2 (some .int), Cond.fieldLink RX12 26 "ShortEnoughModel" "size" "I", Cond.methodLink RX12 243 yX12_isSmall, Cond.instanceMethod yX12_isSmall, Cond.selects RX12 yX12_isSmall yX12_isSmall, Cond.code yX12_isSmall cX12_isSmall 2 (some .boolean), Cond.methodLink RX12 246 yX12_isDigit, Cond.instanceMethod yX12_isDigit, Cond.selects RX12 yX12_isDigit yX12_isDigit, Cond.code yX12_isDigit cX12_isDigit 2 (some .boolean), Cond.methodLink RX12 239 yX12_faults, Cond.instanceMethod yX12_faults, Cond.selects RX12 yX12_faults yX12_faults, Cond.code yX12_faults cX12_faults 3 none, Cond.fieldLink RX12 38 "ShortEnoughModel" "wrongAt" "I", Cond.methodLink RX12 252 yX12_own, Cond.instanceMethod yX12_own, Cond.selects RX12 yX12_own yX12_own, Cond.code yX12_own cX12_own 4 (some .int), Cond.fieldLink RX12 41 "ShortEnoughModel" "ownLetters" "[I", Cond.methodLink RX12 279 yX12_numberNamed, Cond.instanceMethod yX12_numberNamed, Cond.selects RX12 yX12_numberNamed yX12_numberNamed, Cond.code yX12_numberNamed cX12_numberNamed 3 (some .int)]
noncomputable def wsX12_toldNumber_r3 : List Cond := [Cond.fieldLink RX12 62 "ShortEnoughModel" "numbers" "[I", Cond.fieldLink RX12 44 "ShortEnoughModel" "in" "I", Cond.fieldLink RX12 65 "ShortEnoughModel" "numberName" "[I", Cond.methodLink RX12 270 yX12_n, Cond.instanceMethod yX12_n, Cond.selects RX12 yX12_n yX12_n, Cond.code yX12_n cX12_n 2 (some .int)]
noncomputable def wsX12_toldNumber : List Cond := .code yX12_toldNumber cX12_toldNumber 3 (some .int) :: ((wsX12_toldNumber_r1 ++ (wsX12_toldNumber_r2 ++ wsX12_toldNumber_r3)) ++ wsX120)
noncomputable def wsX12_readsFormat_r1 : List Cond := [Cond.constantLong RX12 288 (1000000), Cond.constantLong RX12 294 (1000000000), Cond.fieldLink RX12 32 "ShortEnoughModel" "begun" "I", Cond.constantLong RX12 296 (999), Cond.fieldLink RX12 47 "ShortEnoughModel" "formats" "[I", Cond.fieldLink RX12 44 "ShortEnoughModel" "in" "I", Cond.fieldLink RX12 50 "ShortEnoughModel" "formatName" "[I", Cond.fieldLink RX12 53 "ShortEnoughModel" "step" "[I", Cond.fieldLink RX12 56 "ShortEnoughModel" "most" "[I", Cond.fieldLink RX12 59 "ShortEnoughModel" "formatCost" "[I", Cond.methodLink RX12 282 yX12_newName, Cond.instanceMethod yX12_newName, Cond.selects RX12 yX12_newName yX12_newName, Cond.initialized RX12, Cond.code yX12_newName cX12_newName 2 (some .int), Cond.methodLink RX12 273 yX12_name, Cond.instanceMethod yX12_name, Cond.selects RX12 yX12_name yX12_name, Cond.code yX12_name cX12_name 3 (some .int), Cond.fieldLink RX12 29 "ShortEnoughModel" "at" "I", Cond.fieldLink RX12 7 "ShortEnoughModel" "tape" "[I", Cond.methodLink RX12 249 yX12_word, Cond.instanceMethod yX12_word, Cond.selects RX12 yX12_word yX12_word]
noncomputable def wsX12_readsFormat_r2 : List Cond := [Cond.code yX12_word cX12_word 1 none, Cond.methodLink RX12 231 yX12_goesWell, Cond.instanceMethod yX12_goesWell, Cond.selects RX12 yX12_goesWell yX12_goesWell, Cond.code yX12_goesWell cX12_goesWell 1 (some .boolean), Cond.fieldLink RX12 35 "ShortEnoughModel" "wrong" "I", Cond.methodLink RX12 235 yX12_here, Cond.instanceMethod yX12_here, Cond.selects RX12 yX12_here yX12_here, Cond.code yX12_here cX12_here 1 (some .int), Cond.methodLink RX12 228 yX12_byteAt, Cond.instanceMethod yX12_byteAt, Cond.selects RX12 yX12_byteAt yX12_byteAt, Cond.code yX12_byteAt cX12_byteAt 2 (some .int), Cond.fieldLink RX12 26 "ShortEnoughModel" "size" "I", Cond.methodLink RX12 243 yX12_isSmall, Cond.instanceMethod yX12_isSmall, Cond.selects RX12 yX12_isSmall yX12_isSmall, Cond.code yX12_isSmall cX12_isSmall 2 (some .boolean), Cond.methodLink RX12 246 yX12_isDigit, Cond.instanceMethod yX12_isDigit, Cond.selects RX12 yX12_isDigit yX12_isDigit, Cond.code yX12_isDigit cX12_isDigit 2 (some .boolean), Cond.methodLink RX12 239 yX12_faults]
noncomputable def wsX12_readsFormat_r3 : List Cond := [Cond.instanceMethod yX12_faults, Cond.selects RX12 yX12_faults yX12_faults, Cond.code yX12_faults cX12_faults 3 none, Cond.fieldLink RX12 38 "ShortEnoughModel" "wrongAt" "I", Cond.methodLink RX12 252 yX12_own, Cond.instanceMethod yX12_own, Cond.selects RX12 yX12_own yX12_own, Cond.code yX12_own cX12_own 4 (some .int), Cond.fieldLink RX12 41 "ShortEnoughModel" "ownLetters" "[I", Cond.methodLink RX12 276 yX12_formatNamed, Cond.instanceMethod yX12_formatNamed, Cond.selects RX12 yX12_formatNamed yX12_formatNamed, Cond.code yX12_formatNamed cX12_formatNamed 3 (some .int), Cond.methodLink RX12 267 yX12_f, Cond.instanceMethod yX12_f, Cond.selects RX12 yX12_f yX12_f, Cond.code yX12_f cX12_f 2 (some .int), Cond.methodLink RX12 279 yX12_numberNamed, Cond.instanceMethod yX12_numberNamed, Cond.selects RX12 yX12_numberNamed yX12_numberNamed, Cond.code yX12_numberNamed cX12_numberNamed 3 (some .int), Cond.fieldLink RX12 62 "ShortEnoughModel" "numbers" "[I", Cond.fieldLink RX12 65 "ShortEnoughModel" "numberName" "[I", Cond.methodLink RX12 270 yX12_n]
noncomputable def wsX12_readsFormat_r4 : List Cond := [Cond.instanceMethod yX12_n, Cond.selects RX12 yX12_n yX12_n, Cond.code yX12_n cX12_n 2 (some .int), Cond.methodLink RX12 285 yX12_must, Cond.instanceMethod yX12_must, Cond.selects RX12 yX12_must yX12_must, Cond.code yX12_must cX12_must 2 none, Cond.methodLink RX12 290 yX12_number, Cond.instanceMethod yX12_number, Cond.selects RX12 yX12_number yX12_number, Cond.code yX12_number cX12_number 7 (some .long), Cond.methodLink RX12 259 yX12_digits, Cond.instanceMethod yX12_digits, Cond.selects RX12 yX12_digits yX12_digits, Cond.code yX12_digits cX12_digits 3 (some .long), Cond.constantLong RX12 255 (10), Cond.constantLong RX12 257 (48), Cond.methodLink RX12 263 yX12_isIn, Cond.static yX12_isIn, Cond.code yX12_isIn cX12_isIn 6 (some .boolean)]
noncomputable def wsX12_readsFormat : List Cond := .code yX12_readsFormat cX12_readsFormat 9 none :: ((wsX12_readsFormat_r1 ++ (wsX12_readsFormat_r2 ++ (wsX12_readsFormat_r3 ++ wsX12_readsFormat_r4))) ++ wsX120)
noncomputable def wsX12_newNumber : List Cond := .code yX12_newNumber cX12_newNumber 4 none :: ([Cond.fieldLink RX12 62 "ShortEnoughModel" "numbers" "[I", Cond.fieldLink RX12 44 "ShortEnoughModel" "in" "I", Cond.fieldLink RX12 65 "ShortEnoughModel" "numberName" "[I", Cond.fieldLink RX12 68 "ShortEnoughModel" "op" "[I", Cond.fieldLink RX12 71 "ShortEnoughModel" "first" "[I", Cond.fieldLink RX12 74 "ShortEnoughModel" "second" "[I", Cond.fieldLink RX12 87 "ShortEnoughModel" "fixedAs" "[I", Cond.fieldLink RX12 90 "ShortEnoughModel" "within" "[I", Cond.fieldLink RX12 93 "ShortEnoughModel" "groupOf" "[I", Cond.methodLink RX12 270 yX12_n, Cond.instanceMethod yX12_n, Cond.selects RX12 yX12_n yX12_n, Cond.initialized RX12, Cond.code yX12_n cX12_n 2 (some .int)] ++ wsX120)
noncomputable def wsX12_readsInput_r1 : List Cond := [Cond.constantLong RX12 298 (-10000000), Cond.constantLong RX12 300 (10000000), Cond.fieldLink RX12 32 "ShortEnoughModel" "begun" "I", Cond.fieldLink RX12 77 "ShortEnoughModel" "firstV" "[J", Cond.fieldLink RX12 62 "ShortEnoughModel" "numbers" "[I", Cond.fieldLink RX12 44 "ShortEnoughModel" "in" "I", Cond.fieldLink RX12 81 "ShortEnoughModel" "secondV" "[J", Cond.methodLink RX12 282 yX12_newName, Cond.instanceMethod yX12_newName, Cond.selects RX12 yX12_newName yX12_newName, Cond.initialized RX12, Cond.code yX12_newName cX12_newName 2 (some .int), Cond.methodLink RX12 273 yX12_name, Cond.instanceMethod yX12_name, Cond.selects RX12 yX12_name yX12_name, Cond.code yX12_name cX12_name 3 (some .int), Cond.fieldLink RX12 29 "ShortEnoughModel" "at" "I", Cond.fieldLink RX12 7 "ShortEnoughModel" "tape" "[I", Cond.methodLink RX12 249 yX12_word, Cond.instanceMethod yX12_word, Cond.selects RX12 yX12_word yX12_word, Cond.code yX12_word cX12_word 1 none, Cond.methodLink RX12 231 yX12_goesWell, Cond.instanceMethod yX12_goesWell]
noncomputable def wsX12_readsInput_r2 : List Cond := [Cond.selects RX12 yX12_goesWell yX12_goesWell, Cond.code yX12_goesWell cX12_goesWell 1 (some .boolean), Cond.fieldLink RX12 35 "ShortEnoughModel" "wrong" "I", Cond.methodLink RX12 235 yX12_here, Cond.instanceMethod yX12_here, Cond.selects RX12 yX12_here yX12_here, Cond.code yX12_here cX12_here 1 (some .int), Cond.methodLink RX12 228 yX12_byteAt, Cond.instanceMethod yX12_byteAt, Cond.selects RX12 yX12_byteAt yX12_byteAt, Cond.code yX12_byteAt cX12_byteAt 2 (some .int), Cond.fieldLink RX12 26 "ShortEnoughModel" "size" "I", Cond.methodLink RX12 243 yX12_isSmall, Cond.instanceMethod yX12_isSmall, Cond.selects RX12 yX12_isSmall yX12_isSmall, Cond.code yX12_isSmall cX12_isSmall 2 (some .boolean), Cond.methodLink RX12 246 yX12_isDigit, Cond.instanceMethod yX12_isDigit, Cond.selects RX12 yX12_isDigit yX12_isDigit, Cond.code yX12_isDigit cX12_isDigit 2 (some .boolean), Cond.methodLink RX12 239 yX12_faults, Cond.instanceMethod yX12_faults, Cond.selects RX12 yX12_faults yX12_faults, Cond.code yX12_faults cX12_faults 3 none]
noncomputable def wsX12_readsInput_r3 : List Cond := [Cond.fieldLink RX12 38 "ShortEnoughModel" "wrongAt" "I", Cond.methodLink RX12 252 yX12_own, Cond.instanceMethod yX12_own, Cond.selects RX12 yX12_own yX12_own, Cond.code yX12_own cX12_own 4 (some .int), Cond.fieldLink RX12 41 "ShortEnoughModel" "ownLetters" "[I", Cond.methodLink RX12 276 yX12_formatNamed, Cond.instanceMethod yX12_formatNamed, Cond.selects RX12 yX12_formatNamed yX12_formatNamed, Cond.code yX12_formatNamed cX12_formatNamed 3 (some .int), Cond.fieldLink RX12 47 "ShortEnoughModel" "formats" "[I", Cond.fieldLink RX12 50 "ShortEnoughModel" "formatName" "[I", Cond.methodLink RX12 267 yX12_f, Cond.instanceMethod yX12_f, Cond.selects RX12 yX12_f yX12_f, Cond.code yX12_f cX12_f 2 (some .int), Cond.methodLink RX12 279 yX12_numberNamed, Cond.instanceMethod yX12_numberNamed, Cond.selects RX12 yX12_numberNamed yX12_numberNamed, Cond.code yX12_numberNamed cX12_numberNamed 3 (some .int), Cond.fieldLink RX12 65 "ShortEnoughModel" "numberName" "[I", Cond.methodLink RX12 270 yX12_n, Cond.instanceMethod yX12_n, Cond.selects RX12 yX12_n yX12_n]
noncomputable def wsX12_readsInput_r4 : List Cond := [Cond.code yX12_n cX12_n 2 (some .int), Cond.methodLink RX12 302 yX12_signed, Cond.instanceMethod yX12_signed, Cond.selects RX12 yX12_signed yX12_signed, Cond.code yX12_signed cX12_signed 9 (some .long), Cond.methodLink RX12 259 yX12_digits, Cond.instanceMethod yX12_digits, Cond.selects RX12 yX12_digits yX12_digits, Cond.code yX12_digits cX12_digits 3 (some .long), Cond.constantLong RX12 255 (10), Cond.constantLong RX12 257 (48), Cond.methodLink RX12 263 yX12_isIn, Cond.static yX12_isIn, Cond.code yX12_isIn cX12_isIn 6 (some .boolean), Cond.methodLink RX12 305 yX12_newNumber, Cond.instanceMethod yX12_newNumber, Cond.selects RX12 yX12_newNumber yX12_newNumber, Cond.code yX12_newNumber cX12_newNumber 4 none, Cond.fieldLink RX12 68 "ShortEnoughModel" "op" "[I", Cond.fieldLink RX12 71 "ShortEnoughModel" "first" "[I", Cond.fieldLink RX12 74 "ShortEnoughModel" "second" "[I", Cond.fieldLink RX12 87 "ShortEnoughModel" "fixedAs" "[I", Cond.fieldLink RX12 90 "ShortEnoughModel" "within" "[I", Cond.fieldLink RX12 93 "ShortEnoughModel" "groupOf" "[I"]
noncomputable def wsX12_readsInput : List Cond := .code yX12_readsInput cX12_readsInput 6 none :: ((wsX12_readsInput_r1 ++ (wsX12_readsInput_r2 ++ (wsX12_readsInput_r3 ++ wsX12_readsInput_r4))) ++ wsX120)
noncomputable def wsX12_readsWhat_r1 : List Cond := [Cond.fieldLink RX12 96 "ShortEnoughModel" "whatV" "J", Cond.fieldLink RX12 29 "ShortEnoughModel" "at" "I", Cond.constantLong RX12 308 (-1000000), Cond.constantLong RX12 288 (1000000), Cond.methodLink RX12 231 yX12_goesWell, Cond.instanceMethod yX12_goesWell, Cond.selects RX12 yX12_goesWell yX12_goesWell, Cond.initialized RX12, Cond.code yX12_goesWell cX12_goesWell 1 (some .boolean), Cond.fieldLink RX12 35 "ShortEnoughModel" "wrong" "I", Cond.methodLink RX12 235 yX12_here, Cond.instanceMethod yX12_here, Cond.selects RX12 yX12_here yX12_here, Cond.code yX12_here cX12_here 1 (some .int), Cond.methodLink RX12 228 yX12_byteAt, Cond.instanceMethod yX12_byteAt, Cond.selects RX12 yX12_byteAt yX12_byteAt, Cond.code yX12_byteAt cX12_byteAt 2 (some .int), Cond.fieldLink RX12 26 "ShortEnoughModel" "size" "I", Cond.fieldLink RX12 7 "ShortEnoughModel" "tape" "[I", Cond.methodLink RX12 246 yX12_isDigit, Cond.instanceMethod yX12_isDigit, Cond.selects RX12 yX12_isDigit yX12_isDigit, Cond.code yX12_isDigit cX12_isDigit 2 (some .boolean)]
noncomputable def wsX12_readsWhat_r2 : List Cond := [Cond.methodLink RX12 302 yX12_signed, Cond.instanceMethod yX12_signed, Cond.selects RX12 yX12_signed yX12_signed, Cond.code yX12_signed cX12_signed 9 (some .long), Cond.fieldLink RX12 32 "ShortEnoughModel" "begun" "I", Cond.methodLink RX12 259 yX12_digits, Cond.instanceMethod yX12_digits, Cond.selects RX12 yX12_digits yX12_digits, Cond.code yX12_digits cX12_digits 3 (some .long), Cond.constantLong RX12 255 (10), Cond.constantLong RX12 257 (48), Cond.methodLink RX12 243 yX12_isSmall, Cond.instanceMethod yX12_isSmall, Cond.selects RX12 yX12_isSmall yX12_isSmall, Cond.code yX12_isSmall cX12_isSmall 2 (some .boolean), Cond.methodLink RX12 239 yX12_faults, Cond.instanceMethod yX12_faults, Cond.selects RX12 yX12_faults yX12_faults, Cond.code yX12_faults cX12_faults 3 none, Cond.fieldLink RX12 38 "ShortEnoughModel" "wrongAt" "I", Cond.methodLink RX12 263 yX12_isIn, Cond.static yX12_isIn, Cond.code yX12_isIn cX12_isIn 6 (some .boolean), Cond.methodLink RX12 310 yX12_toldNumber]
noncomputable def wsX12_readsWhat_r3 : List Cond := [Cond.instanceMethod yX12_toldNumber, Cond.selects RX12 yX12_toldNumber yX12_toldNumber, Cond.code yX12_toldNumber cX12_toldNumber 3 (some .int), Cond.methodLink RX12 273 yX12_name, Cond.instanceMethod yX12_name, Cond.selects RX12 yX12_name yX12_name, Cond.code yX12_name cX12_name 3 (some .int), Cond.methodLink RX12 249 yX12_word, Cond.instanceMethod yX12_word, Cond.selects RX12 yX12_word yX12_word, Cond.code yX12_word cX12_word 1 none, Cond.methodLink RX12 252 yX12_own, Cond.instanceMethod yX12_own, Cond.selects RX12 yX12_own yX12_own, Cond.code yX12_own cX12_own 4 (some .int), Cond.fieldLink RX12 41 "ShortEnoughModel" "ownLetters" "[I", Cond.methodLink RX12 279 yX12_numberNamed, Cond.instanceMethod yX12_numberNamed, Cond.selects RX12 yX12_numberNamed yX12_numberNamed, Cond.code yX12_numberNamed cX12_numberNamed 3 (some .int), Cond.fieldLink RX12 62 "ShortEnoughModel" "numbers" "[I", Cond.fieldLink RX12 44 "ShortEnoughModel" "in" "I", Cond.fieldLink RX12 65 "ShortEnoughModel" "numberName" "[I", Cond.methodLink RX12 270 yX12_n]
noncomputable def wsX12_readsWhat_r4 : List Cond := [Cond.instanceMethod yX12_n, Cond.selects RX12 yX12_n yX12_n, Cond.code yX12_n cX12_n 2 (some .int)]
noncomputable def wsX12_readsWhat : List Cond := .code yX12_readsWhat cX12_readsWhat 1 (some .int) :: ((wsX12_readsWhat_r1 ++ (wsX12_readsWhat_r2 ++ (wsX12_readsWhat_r3 ++ wsX12_readsWhat_r4))) ++ wsX120)
noncomputable def wsX12_readsOp_r1 : List Cond := [Cond.fieldLink RX12 29 "ShortEnoughModel" "at" "I", Cond.fieldLink RX12 32 "ShortEnoughModel" "begun" "I", Cond.methodLink RX12 231 yX12_goesWell, Cond.instanceMethod yX12_goesWell, Cond.selects RX12 yX12_goesWell yX12_goesWell, Cond.initialized RX12, Cond.code yX12_goesWell cX12_goesWell 1 (some .boolean), Cond.fieldLink RX12 35 "ShortEnoughModel" "wrong" "I", Cond.methodLink RX12 235 yX12_here, Cond.instanceMethod yX12_here, Cond.selects RX12 yX12_here yX12_here, Cond.code yX12_here cX12_here 1 (some .int), Cond.methodLink RX12 228 yX12_byteAt, Cond.instanceMethod yX12_byteAt, Cond.selects RX12 yX12_byteAt yX12_byteAt, Cond.code yX12_byteAt cX12_byteAt 2 (some .int), Cond.fieldLink RX12 26 "ShortEnoughModel" "size" "I", Cond.fieldLink RX12 7 "ShortEnoughModel" "tape" "[I", Cond.methodLink RX12 249 yX12_word, Cond.instanceMethod yX12_word, Cond.selects RX12 yX12_word yX12_word, Cond.code yX12_word cX12_word 1 none, Cond.methodLink RX12 243 yX12_isSmall, Cond.instanceMethod yX12_isSmall]
noncomputable def wsX12_readsOp_r2 : List Cond := [Cond.selects RX12 yX12_isSmall yX12_isSmall, Cond.code yX12_isSmall cX12_isSmall 2 (some .boolean), Cond.methodLink RX12 246 yX12_isDigit, Cond.instanceMethod yX12_isDigit, Cond.selects RX12 yX12_isDigit yX12_isDigit, Cond.code yX12_isDigit cX12_isDigit 2 (some .boolean), Cond.methodLink RX12 239 yX12_faults, Cond.instanceMethod yX12_faults, Cond.selects RX12 yX12_faults yX12_faults, Cond.code yX12_faults cX12_faults 3 none, Cond.fieldLink RX12 38 "ShortEnoughModel" "wrongAt" "I", Cond.methodLink RX12 252 yX12_own, Cond.instanceMethod yX12_own, Cond.selects RX12 yX12_own yX12_own, Cond.code yX12_own cX12_own 4 (some .int), Cond.fieldLink RX12 41 "ShortEnoughModel" "ownLetters" "[I"]
noncomputable def wsX12_readsOp : List Cond := .code yX12_readsOp cX12_readsOp 3 (some .int) :: ((wsX12_readsOp_r1 ++ wsX12_readsOp_r2) ++ wsX120)
noncomputable def wsX12_readsLet_r1 : List Cond := [Cond.fieldLink RX12 96 "ShortEnoughModel" "whatV" "J", Cond.fieldLink RX12 62 "ShortEnoughModel" "numbers" "[I", Cond.fieldLink RX12 44 "ShortEnoughModel" "in" "I", Cond.fieldLink RX12 71 "ShortEnoughModel" "first" "[I", Cond.fieldLink RX12 77 "ShortEnoughModel" "firstV" "[J", Cond.fieldLink RX12 74 "ShortEnoughModel" "second" "[I", Cond.fieldLink RX12 81 "ShortEnoughModel" "secondV" "[J", Cond.methodLink RX12 282 yX12_newName, Cond.instanceMethod yX12_newName, Cond.selects RX12 yX12_newName yX12_newName, Cond.initialized RX12, Cond.code yX12_newName cX12_newName 2 (some .int), Cond.fieldLink RX12 32 "ShortEnoughModel" "begun" "I", Cond.methodLink RX12 273 yX12_name, Cond.instanceMethod yX12_name, Cond.selects RX12 yX12_name yX12_name, Cond.code yX12_name cX12_name 3 (some .int), Cond.fieldLink RX12 29 "ShortEnoughModel" "at" "I", Cond.fieldLink RX12 7 "ShortEnoughModel" "tape" "[I", Cond.methodLink RX12 249 yX12_word, Cond.instanceMethod yX12_word, Cond.selects RX12 yX12_word yX12_word, Cond.code yX12_word cX12_word 1 none, Cond.methodLink RX12 231 yX12_goesWell]
noncomputable def wsX12_readsLet_r2 : List Cond := [Cond.instanceMethod yX12_goesWell, Cond.selects RX12 yX12_goesWell yX12_goesWell, Cond.code yX12_goesWell cX12_goesWell 1 (some .boolean), Cond.fieldLink RX12 35 "ShortEnoughModel" "wrong" "I", Cond.methodLink RX12 235 yX12_here, Cond.instanceMethod yX12_here, Cond.selects RX12 yX12_here yX12_here, Cond.code yX12_here cX12_here 1 (some .int), Cond.methodLink RX12 228 yX12_byteAt, Cond.instanceMethod yX12_byteAt, Cond.selects RX12 yX12_byteAt yX12_byteAt, Cond.code yX12_byteAt cX12_byteAt 2 (some .int), Cond.fieldLink RX12 26 "ShortEnoughModel" "size" "I", Cond.methodLink RX12 243 yX12_isSmall, Cond.instanceMethod yX12_isSmall, Cond.selects RX12 yX12_isSmall yX12_isSmall, Cond.code yX12_isSmall cX12_isSmall 2 (some .boolean), Cond.methodLink RX12 246 yX12_isDigit, Cond.instanceMethod yX12_isDigit, Cond.selects RX12 yX12_isDigit yX12_isDigit, Cond.code yX12_isDigit cX12_isDigit 2 (some .boolean), Cond.methodLink RX12 239 yX12_faults, Cond.instanceMethod yX12_faults, Cond.selects RX12 yX12_faults yX12_faults]
noncomputable def wsX12_readsLet_r3 : List Cond := [Cond.code yX12_faults cX12_faults 3 none, Cond.fieldLink RX12 38 "ShortEnoughModel" "wrongAt" "I", Cond.methodLink RX12 252 yX12_own, Cond.instanceMethod yX12_own, Cond.selects RX12 yX12_own yX12_own, Cond.code yX12_own cX12_own 4 (some .int), Cond.fieldLink RX12 41 "ShortEnoughModel" "ownLetters" "[I", Cond.methodLink RX12 276 yX12_formatNamed, Cond.instanceMethod yX12_formatNamed, Cond.selects RX12 yX12_formatNamed yX12_formatNamed, Cond.code yX12_formatNamed cX12_formatNamed 3 (some .int), Cond.fieldLink RX12 47 "ShortEnoughModel" "formats" "[I", Cond.fieldLink RX12 50 "ShortEnoughModel" "formatName" "[I", Cond.methodLink RX12 267 yX12_f, Cond.instanceMethod yX12_f, Cond.selects RX12 yX12_f yX12_f, Cond.code yX12_f cX12_f 2 (some .int), Cond.methodLink RX12 279 yX12_numberNamed, Cond.instanceMethod yX12_numberNamed, Cond.selects RX12 yX12_numberNamed yX12_numberNamed, Cond.code yX12_numberNamed cX12_numberNamed 3 (some .int), Cond.fieldLink RX12 65 "ShortEnoughModel" "numberName" "[I", Cond.methodLink RX12 270 yX12_n, Cond.instanceMethod yX12_n]
noncomputable def wsX12_readsLet_r4 : List Cond := [Cond.selects RX12 yX12_n yX12_n, Cond.code yX12_n cX12_n 2 (some .int), Cond.methodLink RX12 313 yX12_mark, Cond.instanceMethod yX12_mark, Cond.selects RX12 yX12_mark yX12_mark, Cond.code yX12_mark cX12_mark 2 none, Cond.methodLink RX12 316 yX12_readsWhat, Cond.instanceMethod yX12_readsWhat, Cond.selects RX12 yX12_readsWhat yX12_readsWhat, Cond.code yX12_readsWhat cX12_readsWhat 1 (some .int), Cond.constantLong RX12 308 (-1000000), Cond.constantLong RX12 288 (1000000), Cond.methodLink RX12 302 yX12_signed, Cond.instanceMethod yX12_signed, Cond.selects RX12 yX12_signed yX12_signed, Cond.code yX12_signed cX12_signed 9 (some .long), Cond.methodLink RX12 259 yX12_digits, Cond.instanceMethod yX12_digits, Cond.selects RX12 yX12_digits yX12_digits, Cond.code yX12_digits cX12_digits 3 (some .long), Cond.constantLong RX12 255 (10), Cond.constantLong RX12 257 (48), Cond.methodLink RX12 263 yX12_isIn, Cond.static yX12_isIn]
noncomputable def wsX12_readsLet_r5 : List Cond := [Cond.code yX12_isIn cX12_isIn 6 (some .boolean), Cond.methodLink RX12 310 yX12_toldNumber, Cond.instanceMethod yX12_toldNumber, Cond.selects RX12 yX12_toldNumber yX12_toldNumber, Cond.code yX12_toldNumber cX12_toldNumber 3 (some .int), Cond.methodLink RX12 319 yX12_readsOp, Cond.instanceMethod yX12_readsOp, Cond.selects RX12 yX12_readsOp yX12_readsOp, Cond.code yX12_readsOp cX12_readsOp 3 (some .int), Cond.methodLink RX12 305 yX12_newNumber, Cond.instanceMethod yX12_newNumber, Cond.selects RX12 yX12_newNumber yX12_newNumber, Cond.code yX12_newNumber cX12_newNumber 4 none, Cond.fieldLink RX12 68 "ShortEnoughModel" "op" "[I", Cond.fieldLink RX12 87 "ShortEnoughModel" "fixedAs" "[I", Cond.fieldLink RX12 90 "ShortEnoughModel" "within" "[I", Cond.fieldLink RX12 93 "ShortEnoughModel" "groupOf" "[I"]
noncomputable def wsX12_readsLet : List Cond := .code yX12_readsLet cX12_readsLet 10 none :: ((wsX12_readsLet_r1 ++ (wsX12_readsLet_r2 ++ (wsX12_readsLet_r3 ++ (wsX12_readsLet_r4 ++ wsX12_readsLet_r5)))) ++ wsX120)
noncomputable def wsX12_readsFixed_r1 : List Cond := [Cond.fieldLink RX12 32 "ShortEnoughModel" "begun" "I", Cond.fieldLink RX12 87 "ShortEnoughModel" "fixedAs" "[I", Cond.methodLink RX12 310 yX12_toldNumber, Cond.instanceMethod yX12_toldNumber, Cond.selects RX12 yX12_toldNumber yX12_toldNumber, Cond.initialized RX12, Cond.code yX12_toldNumber cX12_toldNumber 3 (some .int), Cond.methodLink RX12 273 yX12_name, Cond.instanceMethod yX12_name, Cond.selects RX12 yX12_name yX12_name, Cond.code yX12_name cX12_name 3 (some .int), Cond.fieldLink RX12 29 "ShortEnoughModel" "at" "I", Cond.fieldLink RX12 7 "ShortEnoughModel" "tape" "[I", Cond.methodLink RX12 249 yX12_word, Cond.instanceMethod yX12_word, Cond.selects RX12 yX12_word yX12_word, Cond.code yX12_word cX12_word 1 none, Cond.methodLink RX12 231 yX12_goesWell, Cond.instanceMethod yX12_goesWell, Cond.selects RX12 yX12_goesWell yX12_goesWell, Cond.code yX12_goesWell cX12_goesWell 1 (some .boolean), Cond.fieldLink RX12 35 "ShortEnoughModel" "wrong" "I", Cond.methodLink RX12 235 yX12_here, Cond.instanceMethod yX12_here]
noncomputable def wsX12_readsFixed_r2 : List Cond := [Cond.selects RX12 yX12_here yX12_here, Cond.code yX12_here cX12_here 1 (some .int), Cond.methodLink RX12 228 yX12_byteAt, Cond.instanceMethod yX12_byteAt, Cond.selects RX12 yX12_byteAt yX12_byteAt, Cond.code yX12_byteAt cX12_byteAt 2 (some .int), Cond.fieldLink RX12 26 "ShortEnoughModel" "size" "I", Cond.methodLink RX12 243 yX12_isSmall, Cond.instanceMethod yX12_isSmall, Cond.selects RX12 yX12_isSmall yX12_isSmall, Cond.code yX12_isSmall cX12_isSmall 2 (some .boolean), Cond.methodLink RX12 246 yX12_isDigit, Cond.instanceMethod yX12_isDigit, Cond.selects RX12 yX12_isDigit yX12_isDigit, Cond.code yX12_isDigit cX12_isDigit 2 (some .boolean), Cond.methodLink RX12 239 yX12_faults, Cond.instanceMethod yX12_faults, Cond.selects RX12 yX12_faults yX12_faults, Cond.code yX12_faults cX12_faults 3 none, Cond.fieldLink RX12 38 "ShortEnoughModel" "wrongAt" "I", Cond.methodLink RX12 252 yX12_own, Cond.instanceMethod yX12_own, Cond.selects RX12 yX12_own yX12_own, Cond.code yX12_own cX12_own 4 (some .int)]
noncomputable def wsX12_readsFixed_r3 : List Cond := [Cond.fieldLink RX12 41 "ShortEnoughModel" "ownLetters" "[I", Cond.methodLink RX12 279 yX12_numberNamed, Cond.instanceMethod yX12_numberNamed, Cond.selects RX12 yX12_numberNamed yX12_numberNamed, Cond.code yX12_numberNamed cX12_numberNamed 3 (some .int), Cond.fieldLink RX12 62 "ShortEnoughModel" "numbers" "[I", Cond.fieldLink RX12 44 "ShortEnoughModel" "in" "I", Cond.fieldLink RX12 65 "ShortEnoughModel" "numberName" "[I", Cond.methodLink RX12 270 yX12_n, Cond.instanceMethod yX12_n, Cond.selects RX12 yX12_n yX12_n, Cond.code yX12_n cX12_n 2 (some .int), Cond.methodLink RX12 276 yX12_formatNamed, Cond.instanceMethod yX12_formatNamed, Cond.selects RX12 yX12_formatNamed yX12_formatNamed, Cond.code yX12_formatNamed cX12_formatNamed 3 (some .int), Cond.fieldLink RX12 47 "ShortEnoughModel" "formats" "[I", Cond.fieldLink RX12 50 "ShortEnoughModel" "formatName" "[I", Cond.methodLink RX12 267 yX12_f, Cond.instanceMethod yX12_f, Cond.selects RX12 yX12_f yX12_f, Cond.code yX12_f cX12_f 2 (some .int)]
noncomputable def wsX12_readsFixed : List Cond := .code yX12_readsFixed cX12_readsFixed 4 none :: ((wsX12_readsFixed_r1 ++ (wsX12_readsFixed_r2 ++ wsX12_readsFixed_r3)) ++ wsX120)
noncomputable def wsX12_readsGroup_r1 : List Cond := [Cond.fieldLink RX12 32 "ShortEnoughModel" "begun" "I", Cond.fieldLink RX12 93 "ShortEnoughModel" "groupOf" "[I", Cond.fieldLink RX12 62 "ShortEnoughModel" "numbers" "[I", Cond.fieldLink RX12 44 "ShortEnoughModel" "in" "I", Cond.methodLink RX12 310 yX12_toldNumber, Cond.instanceMethod yX12_toldNumber, Cond.selects RX12 yX12_toldNumber yX12_toldNumber, Cond.initialized RX12, Cond.code yX12_toldNumber cX12_toldNumber 3 (some .int), Cond.methodLink RX12 273 yX12_name, Cond.instanceMethod yX12_name, Cond.selects RX12 yX12_name yX12_name, Cond.code yX12_name cX12_name 3 (some .int), Cond.fieldLink RX12 29 "ShortEnoughModel" "at" "I", Cond.fieldLink RX12 7 "ShortEnoughModel" "tape" "[I", Cond.methodLink RX12 249 yX12_word, Cond.instanceMethod yX12_word, Cond.selects RX12 yX12_word yX12_word, Cond.code yX12_word cX12_word 1 none, Cond.methodLink RX12 231 yX12_goesWell, Cond.instanceMethod yX12_goesWell, Cond.selects RX12 yX12_goesWell yX12_goesWell, Cond.code yX12_goesWell cX12_goesWell 1 (some .boolean), Cond.fieldLink RX12 35 "ShortEnoughModel" "wrong" "I"]
noncomputable def wsX12_readsGroup_r2 : List Cond := [Cond.methodLink RX12 235 yX12_here, Cond.instanceMethod yX12_here, Cond.selects RX12 yX12_here yX12_here, Cond.code yX12_here cX12_here 1 (some .int), Cond.methodLink RX12 228 yX12_byteAt, Cond.instanceMethod yX12_byteAt, Cond.selects RX12 yX12_byteAt yX12_byteAt, Cond.code yX12_byteAt cX12_byteAt 2 (some .int), Cond.fieldLink RX12 26 "ShortEnoughModel" "size" "I", Cond.methodLink RX12 243 yX12_isSmall, Cond.instanceMethod yX12_isSmall, Cond.selects RX12 yX12_isSmall yX12_isSmall, Cond.code yX12_isSmall cX12_isSmall 2 (some .boolean), Cond.methodLink RX12 246 yX12_isDigit, Cond.instanceMethod yX12_isDigit, Cond.selects RX12 yX12_isDigit yX12_isDigit, Cond.code yX12_isDigit cX12_isDigit 2 (some .boolean), Cond.methodLink RX12 239 yX12_faults, Cond.instanceMethod yX12_faults, Cond.selects RX12 yX12_faults yX12_faults, Cond.code yX12_faults cX12_faults 3 none, Cond.fieldLink RX12 38 "ShortEnoughModel" "wrongAt" "I", Cond.methodLink RX12 252 yX12_own, Cond.instanceMethod yX12_own]
noncomputable def wsX12_readsGroup_r3 : List Cond := [Cond.selects RX12 yX12_own yX12_own, Cond.code yX12_own cX12_own 4 (some .int), Cond.fieldLink RX12 41 "ShortEnoughModel" "ownLetters" "[I", Cond.methodLink RX12 279 yX12_numberNamed, Cond.instanceMethod yX12_numberNamed, Cond.selects RX12 yX12_numberNamed yX12_numberNamed, Cond.code yX12_numberNamed cX12_numberNamed 3 (some .int), Cond.fieldLink RX12 65 "ShortEnoughModel" "numberName" "[I", Cond.methodLink RX12 270 yX12_n, Cond.instanceMethod yX12_n, Cond.selects RX12 yX12_n yX12_n, Cond.code yX12_n cX12_n 2 (some .int), Cond.methodLink RX12 322 yX12_lesser, Cond.static yX12_lesser, Cond.code yX12_lesser cX12_lesser 4 (some .long)]
noncomputable def wsX12_readsGroup : List Cond := .code yX12_readsGroup cX12_readsGroup 7 none :: ((wsX12_readsGroup_r1 ++ (wsX12_readsGroup_r2 ++ wsX12_readsGroup_r3)) ++ wsX120)
noncomputable def wsX12_readsAnswer_r1 : List Cond := [Cond.constantLong RX12 288 (1000000), Cond.fieldLink RX12 90 "ShortEnoughModel" "within" "[I", Cond.methodLink RX12 310 yX12_toldNumber, Cond.instanceMethod yX12_toldNumber, Cond.selects RX12 yX12_toldNumber yX12_toldNumber, Cond.initialized RX12, Cond.code yX12_toldNumber cX12_toldNumber 3 (some .int), Cond.fieldLink RX12 32 "ShortEnoughModel" "begun" "I", Cond.methodLink RX12 273 yX12_name, Cond.instanceMethod yX12_name, Cond.selects RX12 yX12_name yX12_name, Cond.code yX12_name cX12_name 3 (some .int), Cond.fieldLink RX12 29 "ShortEnoughModel" "at" "I", Cond.fieldLink RX12 7 "ShortEnoughModel" "tape" "[I", Cond.methodLink RX12 249 yX12_word, Cond.instanceMethod yX12_word, Cond.selects RX12 yX12_word yX12_word, Cond.code yX12_word cX12_word 1 none, Cond.methodLink RX12 231 yX12_goesWell, Cond.instanceMethod yX12_goesWell, Cond.selects RX12 yX12_goesWell yX12_goesWell, Cond.code yX12_goesWell cX12_goesWell 1 (some .boolean), Cond.fieldLink RX12 35 "ShortEnoughModel" "wrong" "I", Cond.methodLink RX12 235 yX12_here]
noncomputable def wsX12_readsAnswer_r2 : List Cond := [Cond.instanceMethod yX12_here, Cond.selects RX12 yX12_here yX12_here, Cond.code yX12_here cX12_here 1 (some .int), Cond.methodLink RX12 228 yX12_byteAt, Cond.instanceMethod yX12_byteAt, Cond.selects RX12 yX12_byteAt yX12_byteAt, Cond.code yX12_byteAt cX12_byteAt 2 (some .int), Cond.fieldLink RX12 26 "ShortEnoughModel" "size" "I", Cond.methodLink RX12 243 yX12_isSmall, Cond.instanceMethod yX12_isSmall, Cond.selects RX12 yX12_isSmall yX12_isSmall, Cond.code yX12_isSmall cX12_isSmall 2 (some .boolean), Cond.methodLink RX12 246 yX12_isDigit, Cond.instanceMethod yX12_isDigit, Cond.selects RX12 yX12_isDigit yX12_isDigit, Cond.code yX12_isDigit cX12_isDigit 2 (some .boolean), Cond.methodLink RX12 239 yX12_faults, Cond.instanceMethod yX12_faults, Cond.selects RX12 yX12_faults yX12_faults, Cond.code yX12_faults cX12_faults 3 none, Cond.fieldLink RX12 38 "ShortEnoughModel" "wrongAt" "I", Cond.methodLink RX12 252 yX12_own, Cond.instanceMethod yX12_own, Cond.selects RX12 yX12_own yX12_own]
noncomputable def wsX12_readsAnswer_r3 : List Cond := [Cond.code yX12_own cX12_own 4 (some .int), Cond.fieldLink RX12 41 "ShortEnoughModel" "ownLetters" "[I", Cond.methodLink RX12 279 yX12_numberNamed, Cond.instanceMethod yX12_numberNamed, Cond.selects RX12 yX12_numberNamed yX12_numberNamed, Cond.code yX12_numberNamed cX12_numberNamed 3 (some .int), Cond.fieldLink RX12 62 "ShortEnoughModel" "numbers" "[I", Cond.fieldLink RX12 44 "ShortEnoughModel" "in" "I", Cond.fieldLink RX12 65 "ShortEnoughModel" "numberName" "[I", Cond.methodLink RX12 270 yX12_n, Cond.instanceMethod yX12_n, Cond.selects RX12 yX12_n yX12_n, Cond.code yX12_n cX12_n 2 (some .int), Cond.methodLink RX12 285 yX12_must, Cond.instanceMethod yX12_must, Cond.selects RX12 yX12_must yX12_must, Cond.code yX12_must cX12_must 2 none, Cond.methodLink RX12 290 yX12_number, Cond.instanceMethod yX12_number, Cond.selects RX12 yX12_number yX12_number, Cond.code yX12_number cX12_number 7 (some .long), Cond.methodLink RX12 259 yX12_digits, Cond.instanceMethod yX12_digits, Cond.selects RX12 yX12_digits yX12_digits]
noncomputable def wsX12_readsAnswer_r4 : List Cond := [Cond.code yX12_digits cX12_digits 3 (some .long), Cond.constantLong RX12 255 (10), Cond.constantLong RX12 257 (48), Cond.methodLink RX12 263 yX12_isIn, Cond.static yX12_isIn, Cond.code yX12_isIn cX12_isIn 6 (some .boolean)]
noncomputable def wsX12_readsAnswer : List Cond := .code yX12_readsAnswer cX12_readsAnswer 4 none :: ((wsX12_readsAnswer_r1 ++ (wsX12_readsAnswer_r2 ++ (wsX12_readsAnswer_r3 ++ wsX12_readsAnswer_r4))) ++ wsX120)
noncomputable def wsX12_isBeginning : List Cond := .code yX12_isBeginning cX12_isBeginning 1 (some .boolean) :: ([])
noncomputable def wsX12_readsStatement_r1 : List Cond := [Cond.fieldLink RX12 32 "ShortEnoughModel" "begun" "I", Cond.fieldLink RX12 47 "ShortEnoughModel" "formats" "[I", Cond.fieldLink RX12 44 "ShortEnoughModel" "in" "I", Cond.fieldLink RX12 62 "ShortEnoughModel" "numbers" "[I", Cond.constantLong RX12 296 (999), Cond.fieldLink RX12 84 "ShortEnoughModel" "castCost" "[I", Cond.methodLink RX12 249 yX12_word, Cond.instanceMethod yX12_word, Cond.selects RX12 yX12_word yX12_word, Cond.initialized RX12, Cond.code yX12_word cX12_word 1 none, Cond.fieldLink RX12 29 "ShortEnoughModel" "at" "I", Cond.methodLink RX12 231 yX12_goesWell, Cond.instanceMethod yX12_goesWell, Cond.selects RX12 yX12_goesWell yX12_goesWell, Cond.code yX12_goesWell cX12_goesWell 1 (some .boolean), Cond.fieldLink RX12 35 "ShortEnoughModel" "wrong" "I", Cond.methodLink RX12 235 yX12_here, Cond.instanceMethod yX12_here, Cond.selects RX12 yX12_here yX12_here, Cond.code yX12_here cX12_here 1 (some .int), Cond.methodLink RX12 228 yX12_byteAt, Cond.instanceMethod yX12_byteAt, Cond.selects RX12 yX12_byteAt yX12_byteAt]
noncomputable def wsX12_readsStatement_r2 : List Cond := [Cond.code yX12_byteAt cX12_byteAt 2 (some .int), Cond.fieldLink RX12 26 "ShortEnoughModel" "size" "I", Cond.fieldLink RX12 7 "ShortEnoughModel" "tape" "[I", Cond.methodLink RX12 243 yX12_isSmall, Cond.instanceMethod yX12_isSmall, Cond.selects RX12 yX12_isSmall yX12_isSmall, Cond.code yX12_isSmall cX12_isSmall 2 (some .boolean), Cond.methodLink RX12 246 yX12_isDigit, Cond.instanceMethod yX12_isDigit, Cond.selects RX12 yX12_isDigit yX12_isDigit, Cond.code yX12_isDigit cX12_isDigit 2 (some .boolean), Cond.methodLink RX12 239 yX12_faults, Cond.instanceMethod yX12_faults, Cond.selects RX12 yX12_faults yX12_faults, Cond.code yX12_faults cX12_faults 3 none, Cond.fieldLink RX12 38 "ShortEnoughModel" "wrongAt" "I", Cond.methodLink RX12 252 yX12_own, Cond.instanceMethod yX12_own, Cond.selects RX12 yX12_own yX12_own, Cond.code yX12_own cX12_own 4 (some .int), Cond.fieldLink RX12 41 "ShortEnoughModel" "ownLetters" "[I", Cond.methodLink RX12 325 yX12_isBeginning, Cond.static yX12_isBeginning, Cond.code yX12_isBeginning cX12_isBeginning 1 (some .boolean)]
noncomputable def wsX12_readsStatement_r3 : List Cond := [Cond.methodLink RX12 328 yX12_readsFormat, Cond.instanceMethod yX12_readsFormat, Cond.selects RX12 yX12_readsFormat yX12_readsFormat, Cond.code yX12_readsFormat cX12_readsFormat 9 none, Cond.constantLong RX12 288 (1000000), Cond.constantLong RX12 294 (1000000000), Cond.fieldLink RX12 50 "ShortEnoughModel" "formatName" "[I", Cond.fieldLink RX12 53 "ShortEnoughModel" "step" "[I", Cond.fieldLink RX12 56 "ShortEnoughModel" "most" "[I", Cond.fieldLink RX12 59 "ShortEnoughModel" "formatCost" "[I", Cond.methodLink RX12 282 yX12_newName, Cond.instanceMethod yX12_newName, Cond.selects RX12 yX12_newName yX12_newName, Cond.code yX12_newName cX12_newName 2 (some .int), Cond.methodLink RX12 273 yX12_name, Cond.instanceMethod yX12_name, Cond.selects RX12 yX12_name yX12_name, Cond.code yX12_name cX12_name 3 (some .int), Cond.methodLink RX12 276 yX12_formatNamed, Cond.instanceMethod yX12_formatNamed, Cond.selects RX12 yX12_formatNamed yX12_formatNamed, Cond.code yX12_formatNamed cX12_formatNamed 3 (some .int), Cond.methodLink RX12 267 yX12_f, Cond.instanceMethod yX12_f]
noncomputable def wsX12_readsStatement_r4 : List Cond := [Cond.selects RX12 yX12_f yX12_f, Cond.code yX12_f cX12_f 2 (some .int), Cond.methodLink RX12 279 yX12_numberNamed, Cond.instanceMethod yX12_numberNamed, Cond.selects RX12 yX12_numberNamed yX12_numberNamed, Cond.code yX12_numberNamed cX12_numberNamed 3 (some .int), Cond.fieldLink RX12 65 "ShortEnoughModel" "numberName" "[I", Cond.methodLink RX12 270 yX12_n, Cond.instanceMethod yX12_n, Cond.selects RX12 yX12_n yX12_n, Cond.code yX12_n cX12_n 2 (some .int), Cond.methodLink RX12 285 yX12_must, Cond.instanceMethod yX12_must, Cond.selects RX12 yX12_must yX12_must, Cond.code yX12_must cX12_must 2 none, Cond.methodLink RX12 290 yX12_number, Cond.instanceMethod yX12_number, Cond.selects RX12 yX12_number yX12_number, Cond.code yX12_number cX12_number 7 (some .long), Cond.methodLink RX12 259 yX12_digits, Cond.instanceMethod yX12_digits, Cond.selects RX12 yX12_digits yX12_digits, Cond.code yX12_digits cX12_digits 3 (some .long), Cond.constantLong RX12 255 (10)]
noncomputable def wsX12_readsStatement_r5 : List Cond := [Cond.constantLong RX12 257 (48), Cond.methodLink RX12 263 yX12_isIn, Cond.static yX12_isIn, Cond.code yX12_isIn cX12_isIn 6 (some .boolean), Cond.methodLink RX12 331 yX12_readsInput, Cond.instanceMethod yX12_readsInput, Cond.selects RX12 yX12_readsInput yX12_readsInput, Cond.code yX12_readsInput cX12_readsInput 6 none, Cond.constantLong RX12 298 (-10000000), Cond.constantLong RX12 300 (10000000), Cond.fieldLink RX12 77 "ShortEnoughModel" "firstV" "[J", Cond.fieldLink RX12 81 "ShortEnoughModel" "secondV" "[J", Cond.methodLink RX12 302 yX12_signed, Cond.instanceMethod yX12_signed, Cond.selects RX12 yX12_signed yX12_signed, Cond.code yX12_signed cX12_signed 9 (some .long), Cond.methodLink RX12 305 yX12_newNumber, Cond.instanceMethod yX12_newNumber, Cond.selects RX12 yX12_newNumber yX12_newNumber, Cond.code yX12_newNumber cX12_newNumber 4 none, Cond.fieldLink RX12 68 "ShortEnoughModel" "op" "[I", Cond.fieldLink RX12 71 "ShortEnoughModel" "first" "[I", Cond.fieldLink RX12 74 "ShortEnoughModel" "second" "[I", Cond.fieldLink RX12 87 "ShortEnoughModel" "fixedAs" "[I"]
noncomputable def wsX12_readsStatement_r6 : List Cond := [Cond.fieldLink RX12 90 "ShortEnoughModel" "within" "[I", Cond.fieldLink RX12 93 "ShortEnoughModel" "groupOf" "[I", Cond.methodLink RX12 334 yX12_readsLet, Cond.instanceMethod yX12_readsLet, Cond.selects RX12 yX12_readsLet yX12_readsLet, Cond.code yX12_readsLet cX12_readsLet 10 none, Cond.fieldLink RX12 96 "ShortEnoughModel" "whatV" "J", Cond.methodLink RX12 313 yX12_mark, Cond.instanceMethod yX12_mark, Cond.selects RX12 yX12_mark yX12_mark, Cond.code yX12_mark cX12_mark 2 none, Cond.methodLink RX12 316 yX12_readsWhat, Cond.instanceMethod yX12_readsWhat, Cond.selects RX12 yX12_readsWhat yX12_readsWhat, Cond.code yX12_readsWhat cX12_readsWhat 1 (some .int), Cond.constantLong RX12 308 (-1000000), Cond.methodLink RX12 310 yX12_toldNumber, Cond.instanceMethod yX12_toldNumber, Cond.selects RX12 yX12_toldNumber yX12_toldNumber, Cond.code yX12_toldNumber cX12_toldNumber 3 (some .int), Cond.methodLink RX12 319 yX12_readsOp, Cond.instanceMethod yX12_readsOp, Cond.selects RX12 yX12_readsOp yX12_readsOp, Cond.code yX12_readsOp cX12_readsOp 3 (some .int)]
noncomputable def wsX12_readsStatement_r7 : List Cond := [Cond.methodLink RX12 337 yX12_readsFixed, Cond.instanceMethod yX12_readsFixed, Cond.selects RX12 yX12_readsFixed yX12_readsFixed, Cond.code yX12_readsFixed cX12_readsFixed 4 none, Cond.methodLink RX12 340 yX12_readsGroup, Cond.instanceMethod yX12_readsGroup, Cond.selects RX12 yX12_readsGroup yX12_readsGroup, Cond.code yX12_readsGroup cX12_readsGroup 7 none, Cond.methodLink RX12 322 yX12_lesser, Cond.static yX12_lesser, Cond.code yX12_lesser cX12_lesser 4 (some .long), Cond.methodLink RX12 343 yX12_readsAnswer, Cond.instanceMethod yX12_readsAnswer, Cond.selects RX12 yX12_readsAnswer yX12_readsAnswer, Cond.code yX12_readsAnswer cX12_readsAnswer 4 none]
noncomputable def wsX12_readsStatement : List Cond := .code yX12_readsStatement cX12_readsStatement 6 none :: ((wsX12_readsStatement_r1 ++ (wsX12_readsStatement_r2 ++ (wsX12_readsStatement_r3 ++ (wsX12_readsStatement_r4 ++ (wsX12_readsStatement_r5 ++ (wsX12_readsStatement_r6 ++ wsX12_readsStatement_r7)))))) ++ wsX120)
noncomputable def wsX12_copiesTask : List Cond := .code yX12_copiesTask cX12_copiesTask 3 none :: ([Cond.fieldLink RX12 47 "ShortEnoughModel" "formats" "[I", Cond.fieldLink RX12 62 "ShortEnoughModel" "numbers" "[I", Cond.fieldLink RX12 84 "ShortEnoughModel" "castCost" "[I", Cond.fieldLink RX12 50 "ShortEnoughModel" "formatName" "[I", Cond.fieldLink RX12 53 "ShortEnoughModel" "step" "[I", Cond.fieldLink RX12 56 "ShortEnoughModel" "most" "[I", Cond.fieldLink RX12 59 "ShortEnoughModel" "formatCost" "[I", Cond.fieldLink RX12 65 "ShortEnoughModel" "numberName" "[I", Cond.fieldLink RX12 68 "ShortEnoughModel" "op" "[I", Cond.fieldLink RX12 71 "ShortEnoughModel" "first" "[I", Cond.fieldLink RX12 74 "ShortEnoughModel" "second" "[I", Cond.fieldLink RX12 77 "ShortEnoughModel" "firstV" "[J", Cond.fieldLink RX12 81 "ShortEnoughModel" "secondV" "[J", Cond.fieldLink RX12 87 "ShortEnoughModel" "fixedAs" "[I", Cond.fieldLink RX12 90 "ShortEnoughModel" "within" "[I", Cond.fieldLink RX12 93 "ShortEnoughModel" "groupOf" "[I"] ++ wsX120)
noncomputable def wsX12_beginsChoice : List Cond := .code yX12_beginsChoice cX12_beginsChoice 3 none :: ([Cond.fieldLink RX12 128 "ShortEnoughModel" "hasHand" "Z", Cond.fieldLink RX12 62 "ShortEnoughModel" "numbers" "[I", Cond.fieldLink RX12 125 "ShortEnoughModel" "hand" "[I", Cond.fieldLink RX12 87 "ShortEnoughModel" "fixedAs" "[I", Cond.fieldLink RX12 93 "ShortEnoughModel" "groupOf" "[I"] ++ wsX120)
noncomputable def wsX12_task_r1 : List Cond := [Cond.fieldLink RX12 13 "ShortEnoughModel" "taped" "I", Cond.fieldLink RX12 26 "ShortEnoughModel" "size" "I", Cond.fieldLink RX12 29 "ShortEnoughModel" "at" "I", Cond.fieldLink RX12 35 "ShortEnoughModel" "wrong" "I", Cond.fieldLink RX12 38 "ShortEnoughModel" "wrongAt" "I", Cond.fieldLink RX12 44 "ShortEnoughModel" "in" "I", Cond.fieldLink RX12 47 "ShortEnoughModel" "formats" "[I", Cond.fieldLink RX12 62 "ShortEnoughModel" "numbers" "[I", Cond.fieldLink RX12 84 "ShortEnoughModel" "castCost" "[I", Cond.fieldLink RX12 20 "ShortEnoughModel" "faultKind" "I", Cond.fieldLink RX12 23 "ShortEnoughModel" "faultPlace" "I", Cond.fieldLink RX12 189 "ShortEnoughModel" "brokenAt" "I", Cond.fieldLink RX12 192 "ShortEnoughModel" "brokenWhy" "I", Cond.methodLink RX12 231 yX12_goesWell, Cond.instanceMethod yX12_goesWell, Cond.selects RX12 yX12_goesWell yX12_goesWell, Cond.initialized RX12, Cond.code yX12_goesWell cX12_goesWell 1 (some .boolean), Cond.methodLink RX12 235 yX12_here, Cond.instanceMethod yX12_here, Cond.selects RX12 yX12_here yX12_here, Cond.code yX12_here cX12_here 1 (some .int), Cond.methodLink RX12 228 yX12_byteAt, Cond.instanceMethod yX12_byteAt]
noncomputable def wsX12_task_r2 : List Cond := [Cond.selects RX12 yX12_byteAt yX12_byteAt, Cond.code yX12_byteAt cX12_byteAt 2 (some .int), Cond.fieldLink RX12 7 "ShortEnoughModel" "tape" "[I", Cond.methodLink RX12 346 yX12_readsStatement, Cond.instanceMethod yX12_readsStatement, Cond.selects RX12 yX12_readsStatement yX12_readsStatement, Cond.code yX12_readsStatement cX12_readsStatement 6 none, Cond.fieldLink RX12 32 "ShortEnoughModel" "begun" "I", Cond.constantLong RX12 296 (999), Cond.methodLink RX12 249 yX12_word, Cond.instanceMethod yX12_word, Cond.selects RX12 yX12_word yX12_word, Cond.code yX12_word cX12_word 1 none, Cond.methodLink RX12 243 yX12_isSmall, Cond.instanceMethod yX12_isSmall, Cond.selects RX12 yX12_isSmall yX12_isSmall, Cond.code yX12_isSmall cX12_isSmall 2 (some .boolean), Cond.methodLink RX12 246 yX12_isDigit, Cond.instanceMethod yX12_isDigit, Cond.selects RX12 yX12_isDigit yX12_isDigit, Cond.code yX12_isDigit cX12_isDigit 2 (some .boolean), Cond.methodLink RX12 239 yX12_faults, Cond.instanceMethod yX12_faults, Cond.selects RX12 yX12_faults yX12_faults]
noncomputable def wsX12_task_r3 : List Cond := [Cond.code yX12_faults cX12_faults 3 none, Cond.methodLink RX12 252 yX12_own, Cond.instanceMethod yX12_own, Cond.selects RX12 yX12_own yX12_own, Cond.code yX12_own cX12_own 4 (some .int), Cond.fieldLink RX12 41 "ShortEnoughModel" "ownLetters" "[I", Cond.methodLink RX12 325 yX12_isBeginning, Cond.static yX12_isBeginning, Cond.code yX12_isBeginning cX12_isBeginning 1 (some .boolean), Cond.methodLink RX12 328 yX12_readsFormat, Cond.instanceMethod yX12_readsFormat, Cond.selects RX12 yX12_readsFormat yX12_readsFormat, Cond.code yX12_readsFormat cX12_readsFormat 9 none, Cond.constantLong RX12 288 (1000000), Cond.constantLong RX12 294 (1000000000), Cond.fieldLink RX12 50 "ShortEnoughModel" "formatName" "[I", Cond.fieldLink RX12 53 "ShortEnoughModel" "step" "[I", Cond.fieldLink RX12 56 "ShortEnoughModel" "most" "[I", Cond.fieldLink RX12 59 "ShortEnoughModel" "formatCost" "[I", Cond.methodLink RX12 282 yX12_newName, Cond.instanceMethod yX12_newName, Cond.selects RX12 yX12_newName yX12_newName, Cond.code yX12_newName cX12_newName 2 (some .int), Cond.methodLink RX12 273 yX12_name]
noncomputable def wsX12_task_r4 : List Cond := [Cond.instanceMethod yX12_name, Cond.selects RX12 yX12_name yX12_name, Cond.code yX12_name cX12_name 3 (some .int), Cond.methodLink RX12 276 yX12_formatNamed, Cond.instanceMethod yX12_formatNamed, Cond.selects RX12 yX12_formatNamed yX12_formatNamed, Cond.code yX12_formatNamed cX12_formatNamed 3 (some .int), Cond.methodLink RX12 267 yX12_f, Cond.instanceMethod yX12_f, Cond.selects RX12 yX12_f yX12_f, Cond.code yX12_f cX12_f 2 (some .int), Cond.methodLink RX12 279 yX12_numberNamed, Cond.instanceMethod yX12_numberNamed, Cond.selects RX12 yX12_numberNamed yX12_numberNamed, Cond.code yX12_numberNamed cX12_numberNamed 3 (some .int), Cond.fieldLink RX12 65 "ShortEnoughModel" "numberName" "[I", Cond.methodLink RX12 270 yX12_n, Cond.instanceMethod yX12_n, Cond.selects RX12 yX12_n yX12_n, Cond.code yX12_n cX12_n 2 (some .int), Cond.methodLink RX12 285 yX12_must, Cond.instanceMethod yX12_must, Cond.selects RX12 yX12_must yX12_must, Cond.code yX12_must cX12_must 2 none]
noncomputable def wsX12_task_r5 : List Cond := [Cond.methodLink RX12 290 yX12_number, Cond.instanceMethod yX12_number, Cond.selects RX12 yX12_number yX12_number, Cond.code yX12_number cX12_number 7 (some .long), Cond.methodLink RX12 259 yX12_digits, Cond.instanceMethod yX12_digits, Cond.selects RX12 yX12_digits yX12_digits, Cond.code yX12_digits cX12_digits 3 (some .long), Cond.constantLong RX12 255 (10), Cond.constantLong RX12 257 (48), Cond.methodLink RX12 263 yX12_isIn, Cond.static yX12_isIn, Cond.code yX12_isIn cX12_isIn 6 (some .boolean), Cond.methodLink RX12 331 yX12_readsInput, Cond.instanceMethod yX12_readsInput, Cond.selects RX12 yX12_readsInput yX12_readsInput, Cond.code yX12_readsInput cX12_readsInput 6 none, Cond.constantLong RX12 298 (-10000000), Cond.constantLong RX12 300 (10000000), Cond.fieldLink RX12 77 "ShortEnoughModel" "firstV" "[J", Cond.fieldLink RX12 81 "ShortEnoughModel" "secondV" "[J", Cond.methodLink RX12 302 yX12_signed, Cond.instanceMethod yX12_signed, Cond.selects RX12 yX12_signed yX12_signed]
noncomputable def wsX12_task_r6 : List Cond := [Cond.code yX12_signed cX12_signed 9 (some .long), Cond.methodLink RX12 305 yX12_newNumber, Cond.instanceMethod yX12_newNumber, Cond.selects RX12 yX12_newNumber yX12_newNumber, Cond.code yX12_newNumber cX12_newNumber 4 none, Cond.fieldLink RX12 68 "ShortEnoughModel" "op" "[I", Cond.fieldLink RX12 71 "ShortEnoughModel" "first" "[I", Cond.fieldLink RX12 74 "ShortEnoughModel" "second" "[I", Cond.fieldLink RX12 87 "ShortEnoughModel" "fixedAs" "[I", Cond.fieldLink RX12 90 "ShortEnoughModel" "within" "[I", Cond.fieldLink RX12 93 "ShortEnoughModel" "groupOf" "[I", Cond.methodLink RX12 334 yX12_readsLet, Cond.instanceMethod yX12_readsLet, Cond.selects RX12 yX12_readsLet yX12_readsLet, Cond.code yX12_readsLet cX12_readsLet 10 none, Cond.fieldLink RX12 96 "ShortEnoughModel" "whatV" "J", Cond.methodLink RX12 313 yX12_mark, Cond.instanceMethod yX12_mark, Cond.selects RX12 yX12_mark yX12_mark, Cond.code yX12_mark cX12_mark 2 none, Cond.methodLink RX12 316 yX12_readsWhat, Cond.instanceMethod yX12_readsWhat, Cond.selects RX12 yX12_readsWhat yX12_readsWhat, Cond.code yX12_readsWhat cX12_readsWhat 1 (some .int)]
noncomputable def wsX12_task_r7 : List Cond := [Cond.constantLong RX12 308 (-1000000), Cond.methodLink RX12 310 yX12_toldNumber, Cond.instanceMethod yX12_toldNumber, Cond.selects RX12 yX12_toldNumber yX12_toldNumber, Cond.code yX12_toldNumber cX12_toldNumber 3 (some .int), Cond.methodLink RX12 319 yX12_readsOp, Cond.instanceMethod yX12_readsOp, Cond.selects RX12 yX12_readsOp yX12_readsOp, Cond.code yX12_readsOp cX12_readsOp 3 (some .int), Cond.methodLink RX12 337 yX12_readsFixed, Cond.instanceMethod yX12_readsFixed, Cond.selects RX12 yX12_readsFixed yX12_readsFixed, Cond.code yX12_readsFixed cX12_readsFixed 4 none, Cond.methodLink RX12 340 yX12_readsGroup, Cond.instanceMethod yX12_readsGroup, Cond.selects RX12 yX12_readsGroup yX12_readsGroup, Cond.code yX12_readsGroup cX12_readsGroup 7 none, Cond.methodLink RX12 322 yX12_lesser, Cond.static yX12_lesser, Cond.code yX12_lesser cX12_lesser 4 (some .long), Cond.methodLink RX12 343 yX12_readsAnswer, Cond.instanceMethod yX12_readsAnswer, Cond.selects RX12 yX12_readsAnswer yX12_readsAnswer, Cond.code yX12_readsAnswer cX12_readsAnswer 4 none]
noncomputable def wsX12_task_r8 : List Cond := [Cond.methodLink RX12 216 yX12_refuses, Cond.instanceMethod yX12_refuses, Cond.selects RX12 yX12_refuses yX12_refuses, Cond.code yX12_refuses cX12_refuses 2 (some .int), Cond.fieldLink RX12 17 "ShortEnoughModel" "refused" "[I", Cond.methodLink RX12 349 yX12_copiesTask, Cond.instanceMethod yX12_copiesTask, Cond.selects RX12 yX12_copiesTask yX12_copiesTask, Cond.code yX12_copiesTask cX12_copiesTask 3 none, Cond.methodLink RX12 352 yX12_beginsChoice, Cond.instanceMethod yX12_beginsChoice, Cond.selects RX12 yX12_beginsChoice yX12_beginsChoice, Cond.code yX12_beginsChoice cX12_beginsChoice 3 none, Cond.fieldLink RX12 128 "ShortEnoughModel" "hasHand" "Z", Cond.fieldLink RX12 125 "ShortEnoughModel" "hand" "[I"]
noncomputable def wsX12_task : List Cond := .code yX12_task cX12_task 2 (some .int) :: ((wsX12_task_r1 ++ (wsX12_task_r2 ++ (wsX12_task_r3 ++ (wsX12_task_r4 ++ (wsX12_task_r5 ++ (wsX12_task_r6 ++ (wsX12_task_r7 ++ wsX12_task_r8))))))) ++ wsX120)
noncomputable def wsX12_fault : List Cond := .code yX12_fault cX12_fault 2 (some .int) :: ([Cond.fieldLink RX12 20 "ShortEnoughModel" "faultKind" "I", Cond.fieldLink RX12 23 "ShortEnoughModel" "faultPlace" "I"] ++ wsX120)
noncomputable def wsX12_isNumber : List Cond := .code yX12_isNumber cX12_isNumber 2 (some .boolean) :: ([Cond.fieldLink RX12 62 "ShortEnoughModel" "numbers" "[I", Cond.methodLink RX12 263 yX12_isIn, Cond.static yX12_isIn, Cond.initialized RX12, Cond.code yX12_isIn cX12_isIn 6 (some .boolean)] ++ wsX120)
noncomputable def wsX12_isFormat : List Cond := .code yX12_isFormat cX12_isFormat 2 (some .boolean) :: ([Cond.fieldLink RX12 47 "ShortEnoughModel" "formats" "[I", Cond.methodLink RX12 263 yX12_isIn, Cond.static yX12_isIn, Cond.initialized RX12, Cond.code yX12_isIn cX12_isIn 6 (some .boolean)] ++ wsX120)
noncomputable def wsX12_inputs : List Cond := .code yX12_inputs cX12_inputs 3 (some .int) :: ([Cond.fieldLink RX12 62 "ShortEnoughModel" "numbers" "[I", Cond.fieldLink RX12 68 "ShortEnoughModel" "op" "[I"] ++ wsX120)
noncomputable def wsX12_answers : List Cond := .code yX12_answers cX12_answers 3 (some .int) :: ([Cond.fieldLink RX12 62 "ShortEnoughModel" "numbers" "[I", Cond.fieldLink RX12 90 "ShortEnoughModel" "within" "[I"] ++ wsX120)
noncomputable def wsX12_groups : List Cond := .code yX12_groups cX12_groups 3 (some .int) :: ([Cond.fieldLink RX12 62 "ShortEnoughModel" "numbers" "[I", Cond.fieldLink RX12 93 "ShortEnoughModel" "groupOf" "[I"] ++ wsX120)
noncomputable def wsX12_isFree : List Cond := .code yX12_isFree cX12_isFree 3 (some .boolean) :: ([Cond.fieldLink RX12 62 "ShortEnoughModel" "numbers" "[I", Cond.fieldLink RX12 93 "ShortEnoughModel" "groupOf" "[I", Cond.fieldLink RX12 87 "ShortEnoughModel" "fixedAs" "[I"] ++ wsX120)
noncomputable def wsX12_laysFree : List Cond := .code yX12_laysFree cX12_laysFree 2 none :: ([Cond.fieldLink RX12 103 "ShortEnoughModel" "freeMany" "I", Cond.fieldLink RX12 62 "ShortEnoughModel" "numbers" "[I", Cond.fieldLink RX12 93 "ShortEnoughModel" "groupOf" "[I", Cond.fieldLink RX12 100 "ShortEnoughModel" "free" "[I", Cond.methodLink RX12 355 yX12_isFree, Cond.instanceMethod yX12_isFree, Cond.selects RX12 yX12_isFree yX12_isFree, Cond.initialized RX12, Cond.code yX12_isFree cX12_isFree 3 (some .boolean), Cond.fieldLink RX12 87 "ShortEnoughModel" "fixedAs" "[I"] ++ wsX120)
noncomputable def wsX12_has_r1 : List Cond := [Cond.fieldLink RX12 62 "ShortEnoughModel" "numbers" "[I", Cond.fieldLink RX12 47 "ShortEnoughModel" "formats" "[I", Cond.fieldLink RX12 103 "ShortEnoughModel" "freeMany" "I", Cond.fieldLink RX12 84 "ShortEnoughModel" "castCost" "[I", Cond.fieldLink RX12 207 "ShortEnoughModel" "seedNow" "I", Cond.methodLink RX12 358 yX12_laysFree, Cond.instanceMethod yX12_laysFree, Cond.selects RX12 yX12_laysFree yX12_laysFree, Cond.initialized RX12, Cond.code yX12_laysFree cX12_laysFree 2 none, Cond.fieldLink RX12 93 "ShortEnoughModel" "groupOf" "[I", Cond.fieldLink RX12 100 "ShortEnoughModel" "free" "[I", Cond.methodLink RX12 355 yX12_isFree, Cond.instanceMethod yX12_isFree, Cond.selects RX12 yX12_isFree yX12_isFree, Cond.code yX12_isFree cX12_isFree 3 (some .boolean), Cond.fieldLink RX12 87 "ShortEnoughModel" "fixedAs" "[I", Cond.methodLink RX12 361 yX12_inputs, Cond.instanceMethod yX12_inputs, Cond.selects RX12 yX12_inputs yX12_inputs, Cond.code yX12_inputs cX12_inputs 3 (some .int), Cond.fieldLink RX12 68 "ShortEnoughModel" "op" "[I", Cond.methodLink RX12 364 yX12_answers, Cond.instanceMethod yX12_answers]
noncomputable def wsX12_has_r2 : List Cond := [Cond.selects RX12 yX12_answers yX12_answers, Cond.code yX12_answers cX12_answers 3 (some .int), Cond.fieldLink RX12 90 "ShortEnoughModel" "within" "[I", Cond.methodLink RX12 367 yX12_groups, Cond.instanceMethod yX12_groups, Cond.selects RX12 yX12_groups yX12_groups, Cond.code yX12_groups cX12_groups 3 (some .int)]
noncomputable def wsX12_has : List Cond := .code yX12_has cX12_has 2 (some .int) :: ((wsX12_has_r1 ++ wsX12_has_r2) ++ wsX120)
noncomputable def wsX12_letter : List Cond := .code yX12_letter cX12_letter 5 (some .int) :: ([Cond.constantLong RX12 376 (5), Cond.fieldLink RX12 50 "ShortEnoughModel" "formatName" "[I", Cond.fieldLink RX12 65 "ShortEnoughModel" "numberName" "[I", Cond.methodLink RX12 370 yX12_isFormat, Cond.instanceMethod yX12_isFormat, Cond.selects RX12 yX12_isFormat yX12_isFormat, Cond.initialized RX12, Cond.code yX12_isFormat cX12_isFormat 2 (some .boolean), Cond.fieldLink RX12 47 "ShortEnoughModel" "formats" "[I", Cond.methodLink RX12 263 yX12_isIn, Cond.static yX12_isIn, Cond.code yX12_isIn cX12_isIn 6 (some .boolean), Cond.methodLink RX12 373 yX12_isNumber, Cond.instanceMethod yX12_isNumber, Cond.selects RX12 yX12_isNumber yX12_isNumber, Cond.code yX12_isNumber cX12_isNumber 2 (some .boolean), Cond.fieldLink RX12 62 "ShortEnoughModel" "numbers" "[I"] ++ wsX120)
noncomputable def wsX12_format : List Cond := .code yX12_format cX12_format 3 (some .int) :: ([Cond.fieldLink RX12 53 "ShortEnoughModel" "step" "[I", Cond.fieldLink RX12 56 "ShortEnoughModel" "most" "[I", Cond.fieldLink RX12 59 "ShortEnoughModel" "formatCost" "[I", Cond.methodLink RX12 370 yX12_isFormat, Cond.instanceMethod yX12_isFormat, Cond.selects RX12 yX12_isFormat yX12_isFormat, Cond.initialized RX12, Cond.code yX12_isFormat cX12_isFormat 2 (some .boolean), Cond.fieldLink RX12 47 "ShortEnoughModel" "formats" "[I", Cond.methodLink RX12 263 yX12_isIn, Cond.static yX12_isIn, Cond.code yX12_isIn cX12_isIn 6 (some .boolean)] ++ wsX120)
noncomputable def wsX12_groupPlace : List Cond := .code yX12_groupPlace cX12_groupPlace 4 (some .int) :: ([Cond.fieldLink RX12 93 "ShortEnoughModel" "groupOf" "[I"] ++ wsX120)
noncomputable def wsX12_number_ : List Cond := .code yX12_number_ cX12_number_ 3 (some .int) :: ([Cond.fieldLink RX12 68 "ShortEnoughModel" "op" "[I", Cond.fieldLink RX12 71 "ShortEnoughModel" "first" "[I", Cond.fieldLink RX12 74 "ShortEnoughModel" "second" "[I", Cond.fieldLink RX12 87 "ShortEnoughModel" "fixedAs" "[I", Cond.fieldLink RX12 90 "ShortEnoughModel" "within" "[I", Cond.methodLink RX12 373 yX12_isNumber, Cond.instanceMethod yX12_isNumber, Cond.selects RX12 yX12_isNumber yX12_isNumber, Cond.initialized RX12, Cond.code yX12_isNumber cX12_isNumber 2 (some .boolean), Cond.fieldLink RX12 62 "ShortEnoughModel" "numbers" "[I", Cond.methodLink RX12 263 yX12_isIn, Cond.static yX12_isIn, Cond.code yX12_isIn cX12_isIn 6 (some .boolean), Cond.methodLink RX12 378 yX12_groupPlace, Cond.instanceMethod yX12_groupPlace, Cond.selects RX12 yX12_groupPlace yX12_groupPlace, Cond.code yX12_groupPlace cX12_groupPlace 4 (some .int), Cond.fieldLink RX12 93 "ShortEnoughModel" "groupOf" "[I"] ++ wsX120)
noncomputable def wsX12_told : List Cond := .code yX12_told cX12_told 3 (some .long) :: ([Cond.constantLong RX12 381 (-1000000000000000), Cond.fieldLink RX12 68 "ShortEnoughModel" "op" "[I", Cond.fieldLink RX12 71 "ShortEnoughModel" "first" "[I", Cond.fieldLink RX12 74 "ShortEnoughModel" "second" "[I", Cond.fieldLink RX12 77 "ShortEnoughModel" "firstV" "[J", Cond.fieldLink RX12 81 "ShortEnoughModel" "secondV" "[J", Cond.methodLink RX12 373 yX12_isNumber, Cond.instanceMethod yX12_isNumber, Cond.selects RX12 yX12_isNumber yX12_isNumber, Cond.initialized RX12, Cond.code yX12_isNumber cX12_isNumber 2 (some .boolean), Cond.fieldLink RX12 62 "ShortEnoughModel" "numbers" "[I", Cond.methodLink RX12 263 yX12_isIn, Cond.static yX12_isIn, Cond.code yX12_isIn cX12_isIn 6 (some .boolean)] ++ wsX120)
noncomputable def wsX12_rounded : List Cond := .code yX12_rounded cX12_rounded 4 (some .long) :: ([Cond.constantLong RX12 383 (2), Cond.methodLink RX12 385 yX12_floor, Cond.static yX12_floor, Cond.initialized RX12, Cond.code yX12_floor cX12_floor 6 (some .long)])
noncomputable def wsX12_roundedProduct : List Cond := .code yX12_roundedProduct cX12_roundedProduct 6 (some .long) :: ([Cond.constantLong RX12 383 (2), Cond.constantLong RX12 388 (1000), Cond.constantLong RX12 390 (2000), Cond.methodLink RX12 385 yX12_floor, Cond.static yX12_floor, Cond.initialized RX12, Cond.code yX12_floor cX12_floor 6 (some .long)])
noncomputable def wsX12_two : List Cond := .code yX12_two cX12_two 7 (some .long) :: ([Cond.methodLink RX12 392 yX12_roundedProduct, Cond.static yX12_roundedProduct, Cond.initialized RX12, Cond.code yX12_roundedProduct cX12_roundedProduct 6 (some .long), Cond.constantLong RX12 383 (2), Cond.constantLong RX12 388 (1000), Cond.constantLong RX12 390 (2000), Cond.methodLink RX12 385 yX12_floor, Cond.static yX12_floor, Cond.code yX12_floor cX12_floor 6 (some .long), Cond.methodLink RX12 322 yX12_lesser, Cond.static yX12_lesser, Cond.code yX12_lesser cX12_lesser 4 (some .long), Cond.methodLink RX12 396 yX12_greater, Cond.static yX12_greater, Cond.code yX12_greater cX12_greater 4 (some .long)])
noncomputable def wsX12_lowOf : List Cond := .code yX12_lowOf cX12_lowOf 4 (some .long) :: ([Cond.fieldLink RX12 74 "ShortEnoughModel" "second" "[I", Cond.fieldLink RX12 71 "ShortEnoughModel" "first" "[I", Cond.fieldLink RX12 81 "ShortEnoughModel" "secondV" "[J", Cond.fieldLink RX12 77 "ShortEnoughModel" "firstV" "[J", Cond.fieldLink RX12 106 "ShortEnoughModel" "least" "[J"] ++ wsX120)
noncomputable def wsX12_highOf : List Cond := .code yX12_highOf cX12_highOf 4 (some .long) :: ([Cond.fieldLink RX12 74 "ShortEnoughModel" "second" "[I", Cond.fieldLink RX12 71 "ShortEnoughModel" "first" "[I", Cond.fieldLink RX12 81 "ShortEnoughModel" "secondV" "[J", Cond.fieldLink RX12 77 "ShortEnoughModel" "firstV" "[J", Cond.fieldLink RX12 109 "ShortEnoughModel" "greatest" "[J"] ++ wsX120)
noncomputable def wsX12_laysRange_r1 : List Cond := [Cond.fieldLink RX12 68 "ShortEnoughModel" "op" "[I", Cond.fieldLink RX12 112 "ShortEnoughModel" "wideNumber" "I", Cond.fieldLink RX12 115 "ShortEnoughModel" "wideBy" "J", Cond.fieldLink RX12 106 "ShortEnoughModel" "least" "[J", Cond.fieldLink RX12 77 "ShortEnoughModel" "firstV" "[J", Cond.fieldLink RX12 109 "ShortEnoughModel" "greatest" "[J", Cond.fieldLink RX12 81 "ShortEnoughModel" "secondV" "[J", Cond.methodLink RX12 399 yX12_lowOf, Cond.instanceMethod yX12_lowOf, Cond.selects RX12 yX12_lowOf yX12_lowOf, Cond.initialized RX12, Cond.code yX12_lowOf cX12_lowOf 4 (some .long), Cond.fieldLink RX12 74 "ShortEnoughModel" "second" "[I", Cond.fieldLink RX12 71 "ShortEnoughModel" "first" "[I", Cond.methodLink RX12 403 yX12_highOf, Cond.instanceMethod yX12_highOf, Cond.selects RX12 yX12_highOf yX12_highOf, Cond.code yX12_highOf cX12_highOf 4 (some .long), Cond.methodLink RX12 406 yX12_two, Cond.static yX12_two, Cond.code yX12_two cX12_two 7 (some .long), Cond.methodLink RX12 392 yX12_roundedProduct, Cond.static yX12_roundedProduct, Cond.code yX12_roundedProduct cX12_roundedProduct 6 (some .long)]
noncomputable def wsX12_laysRange_r2 : List Cond := [Cond.constantLong RX12 383 (2), Cond.constantLong RX12 388 (1000), Cond.constantLong RX12 390 (2000), Cond.methodLink RX12 385 yX12_floor, Cond.static yX12_floor, Cond.code yX12_floor cX12_floor 6 (some .long), Cond.methodLink RX12 322 yX12_lesser, Cond.static yX12_lesser, Cond.code yX12_lesser cX12_lesser 4 (some .long), Cond.methodLink RX12 396 yX12_greater, Cond.static yX12_greater, Cond.code yX12_greater cX12_greater 4 (some .long)]
noncomputable def wsX12_laysRange : List Cond := .code yX12_laysRange cX12_laysRange 18 none :: ((wsX12_laysRange_r1 ++ wsX12_laysRange_r2) ++ wsX120)
noncomputable def wsX12_mostOf : List Cond := .code yX12_mostOf cX12_mostOf 2 (some .long) :: ([Cond.fieldLink RX12 106 "ShortEnoughModel" "least" "[J", Cond.fieldLink RX12 109 "ShortEnoughModel" "greatest" "[J", Cond.methodLink RX12 410 yX12_amount, Cond.static yX12_amount, Cond.initialized RX12, Cond.code yX12_amount cX12_amount 2 (some .long), Cond.methodLink RX12 396 yX12_greater, Cond.static yX12_greater, Cond.code yX12_greater cX12_greater 4 (some .long)] ++ wsX120)
noncomputable def wsX12_isGreatPart : List Cond := .code yX12_isGreatPart cX12_isGreatPart 2 (some .boolean) :: ([Cond.fieldLink RX12 118 "ShortEnoughModel" "isGreat" "[Z"] ++ wsX120)
noncomputable def wsX12_range_r1 : List Cond := [Cond.constantLong RX12 381 (-1000000000000000), Cond.fieldLink RX12 112 "ShortEnoughModel" "wideNumber" "I", Cond.fieldLink RX12 118 "ShortEnoughModel" "isGreat" "[Z", Cond.fieldLink RX12 71 "ShortEnoughModel" "first" "[I", Cond.fieldLink RX12 74 "ShortEnoughModel" "second" "[I", Cond.constantLong RX12 294 (1000000000), Cond.fieldLink RX12 109 "ShortEnoughModel" "greatest" "[J", Cond.fieldLink RX12 106 "ShortEnoughModel" "least" "[J", Cond.methodLink RX12 373 yX12_isNumber, Cond.instanceMethod yX12_isNumber, Cond.selects RX12 yX12_isNumber yX12_isNumber, Cond.initialized RX12, Cond.code yX12_isNumber cX12_isNumber 2 (some .boolean), Cond.fieldLink RX12 62 "ShortEnoughModel" "numbers" "[I", Cond.methodLink RX12 263 yX12_isIn, Cond.static yX12_isIn, Cond.code yX12_isIn cX12_isIn 6 (some .boolean), Cond.methodLink RX12 414 yX12_isGreatPart, Cond.instanceMethod yX12_isGreatPart, Cond.selects RX12 yX12_isGreatPart yX12_isGreatPart, Cond.code yX12_isGreatPart cX12_isGreatPart 2 (some .boolean), Cond.methodLink RX12 417 yX12_laysRange, Cond.instanceMethod yX12_laysRange, Cond.selects RX12 yX12_laysRange yX12_laysRange]
noncomputable def wsX12_range_r2 : List Cond := [Cond.code yX12_laysRange cX12_laysRange 18 none, Cond.fieldLink RX12 68 "ShortEnoughModel" "op" "[I", Cond.fieldLink RX12 115 "ShortEnoughModel" "wideBy" "J", Cond.fieldLink RX12 77 "ShortEnoughModel" "firstV" "[J", Cond.fieldLink RX12 81 "ShortEnoughModel" "secondV" "[J", Cond.methodLink RX12 399 yX12_lowOf, Cond.instanceMethod yX12_lowOf, Cond.selects RX12 yX12_lowOf yX12_lowOf, Cond.code yX12_lowOf cX12_lowOf 4 (some .long), Cond.methodLink RX12 403 yX12_highOf, Cond.instanceMethod yX12_highOf, Cond.selects RX12 yX12_highOf yX12_highOf, Cond.code yX12_highOf cX12_highOf 4 (some .long), Cond.methodLink RX12 406 yX12_two, Cond.static yX12_two, Cond.code yX12_two cX12_two 7 (some .long), Cond.methodLink RX12 392 yX12_roundedProduct, Cond.static yX12_roundedProduct, Cond.code yX12_roundedProduct cX12_roundedProduct 6 (some .long), Cond.constantLong RX12 383 (2), Cond.constantLong RX12 388 (1000), Cond.constantLong RX12 390 (2000), Cond.methodLink RX12 385 yX12_floor, Cond.static yX12_floor]
noncomputable def wsX12_range_r3 : List Cond := [Cond.code yX12_floor cX12_floor 6 (some .long), Cond.methodLink RX12 322 yX12_lesser, Cond.static yX12_lesser, Cond.code yX12_lesser cX12_lesser 4 (some .long), Cond.methodLink RX12 396 yX12_greater, Cond.static yX12_greater, Cond.code yX12_greater cX12_greater 4 (some .long), Cond.methodLink RX12 420 yX12_mostOf, Cond.instanceMethod yX12_mostOf, Cond.selects RX12 yX12_mostOf yX12_mostOf, Cond.code yX12_mostOf cX12_mostOf 2 (some .long), Cond.methodLink RX12 410 yX12_amount, Cond.static yX12_amount, Cond.code yX12_amount cX12_amount 2 (some .long)]
noncomputable def wsX12_range : List Cond := .code yX12_range cX12_range 4 (some .long) :: ((wsX12_range_r1 ++ (wsX12_range_r2 ++ wsX12_range_r3)) ++ wsX120)
noncomputable def wsX12_uses : List Cond := .code yX12_uses cX12_uses 5 (some .int) :: ([Cond.fieldLink RX12 62 "ShortEnoughModel" "numbers" "[I", Cond.fieldLink RX12 71 "ShortEnoughModel" "first" "[I", Cond.fieldLink RX12 74 "ShortEnoughModel" "second" "[I", Cond.methodLink RX12 373 yX12_isNumber, Cond.instanceMethod yX12_isNumber, Cond.selects RX12 yX12_isNumber yX12_isNumber, Cond.initialized RX12, Cond.code yX12_isNumber cX12_isNumber 2 (some .boolean), Cond.methodLink RX12 263 yX12_isIn, Cond.static yX12_isIn, Cond.code yX12_isIn cX12_isIn 6 (some .boolean)] ++ wsX120)
noncomputable def wsX12_deepOf : List Cond := .code yX12_deepOf cX12_deepOf 2 (some .int) :: ([Cond.fieldLink RX12 122 "ShortEnoughModel" "deep" "[I"] ++ wsX120)
noncomputable def wsX12_depth : List Cond := .code yX12_depth cX12_depth 5 (some .int) :: ([Cond.fieldLink RX12 71 "ShortEnoughModel" "first" "[I", Cond.fieldLink RX12 74 "ShortEnoughModel" "second" "[I", Cond.fieldLink RX12 122 "ShortEnoughModel" "deep" "[I", Cond.fieldLink RX12 68 "ShortEnoughModel" "op" "[I", Cond.methodLink RX12 373 yX12_isNumber, Cond.instanceMethod yX12_isNumber, Cond.selects RX12 yX12_isNumber yX12_isNumber, Cond.initialized RX12, Cond.code yX12_isNumber cX12_isNumber 2 (some .boolean), Cond.fieldLink RX12 62 "ShortEnoughModel" "numbers" "[I", Cond.methodLink RX12 263 yX12_isIn, Cond.static yX12_isIn, Cond.code yX12_isIn cX12_isIn 6 (some .boolean), Cond.methodLink RX12 424 yX12_deepOf, Cond.instanceMethod yX12_deepOf, Cond.selects RX12 yX12_deepOf yX12_deepOf, Cond.code yX12_deepOf cX12_deepOf 2 (some .int)] ++ wsX120)
noncomputable def wsX12_triesHand : List Cond := .code yX12_triesHand cX12_triesHand 2 none :: ([Cond.fieldLink RX12 62 "ShortEnoughModel" "numbers" "[I", Cond.fieldLink RX12 132 "ShortEnoughModel" "tried" "[I", Cond.fieldLink RX12 125 "ShortEnoughModel" "hand" "[I"] ++ wsX120)
noncomputable def wsX12_triesGroup : List Cond := .code yX12_triesGroup cX12_triesGroup 4 none :: ([Cond.fieldLink RX12 62 "ShortEnoughModel" "numbers" "[I", Cond.fieldLink RX12 132 "ShortEnoughModel" "tried" "[I", Cond.fieldLink RX12 93 "ShortEnoughModel" "groupOf" "[I"] ++ wsX120)
noncomputable def wsX12_castError : List Cond := .code yX12_castError cX12_castError 6 (some .long) :: ([Cond.fieldLink RX12 53 "ShortEnoughModel" "step" "[I", Cond.fieldLink RX12 132 "ShortEnoughModel" "tried" "[I", Cond.fieldLink RX12 74 "ShortEnoughModel" "second" "[I", Cond.fieldLink RX12 71 "ShortEnoughModel" "first" "[I", Cond.fieldLink RX12 81 "ShortEnoughModel" "secondV" "[J", Cond.fieldLink RX12 77 "ShortEnoughModel" "firstV" "[J", Cond.constantLong RX12 383 (2), Cond.fieldLink RX12 135 "ShortEnoughModel" "error" "[J"] ++ wsX120)
noncomputable def wsX12_laysError_r1 : List Cond := [Cond.fieldLink RX12 53 "ShortEnoughModel" "step" "[I", Cond.fieldLink RX12 132 "ShortEnoughModel" "tried" "[I", Cond.constantLong RX12 383 (2), Cond.fieldLink RX12 68 "ShortEnoughModel" "op" "[I", Cond.fieldLink RX12 135 "ShortEnoughModel" "error" "[J", Cond.constantLong RX12 388 (1000), Cond.methodLink RX12 427 yX12_castError, Cond.instanceMethod yX12_castError, Cond.selects RX12 yX12_castError yX12_castError, Cond.initialized RX12, Cond.code yX12_castError cX12_castError 6 (some .long), Cond.fieldLink RX12 74 "ShortEnoughModel" "second" "[I", Cond.fieldLink RX12 71 "ShortEnoughModel" "first" "[I", Cond.fieldLink RX12 81 "ShortEnoughModel" "secondV" "[J", Cond.fieldLink RX12 77 "ShortEnoughModel" "firstV" "[J", Cond.methodLink RX12 399 yX12_lowOf, Cond.instanceMethod yX12_lowOf, Cond.selects RX12 yX12_lowOf yX12_lowOf, Cond.code yX12_lowOf cX12_lowOf 4 (some .long), Cond.fieldLink RX12 106 "ShortEnoughModel" "least" "[J", Cond.methodLink RX12 410 yX12_amount, Cond.static yX12_amount, Cond.code yX12_amount cX12_amount 2 (some .long), Cond.methodLink RX12 403 yX12_highOf]
noncomputable def wsX12_laysError_r2 : List Cond := [Cond.instanceMethod yX12_highOf, Cond.selects RX12 yX12_highOf yX12_highOf, Cond.code yX12_highOf cX12_highOf 4 (some .long), Cond.fieldLink RX12 109 "ShortEnoughModel" "greatest" "[J", Cond.methodLink RX12 396 yX12_greater, Cond.static yX12_greater, Cond.code yX12_greater cX12_greater 4 (some .long), Cond.methodLink RX12 385 yX12_floor, Cond.static yX12_floor, Cond.code yX12_floor cX12_floor 6 (some .long)]
noncomputable def wsX12_laysError : List Cond := .code yX12_laysError cX12_laysError 12 none :: ((wsX12_laysError_r1 ++ wsX12_laysError_r2) ++ wsX120)
noncomputable def wsX12_passes_r1 : List Cond := [Cond.fieldLink RX12 138 "ShortEnoughModel" "failsAt" "I", Cond.fieldLink RX12 141 "ShortEnoughModel" "failsWhy" "I", Cond.fieldLink RX12 62 "ShortEnoughModel" "numbers" "[I", Cond.fieldLink RX12 135 "ShortEnoughModel" "error" "[J", Cond.fieldLink RX12 56 "ShortEnoughModel" "most" "[I", Cond.fieldLink RX12 132 "ShortEnoughModel" "tried" "[I", Cond.fieldLink RX12 90 "ShortEnoughModel" "within" "[I", Cond.methodLink RX12 417 yX12_laysRange, Cond.instanceMethod yX12_laysRange, Cond.selects RX12 yX12_laysRange yX12_laysRange, Cond.initialized RX12, Cond.code yX12_laysRange cX12_laysRange 18 none, Cond.fieldLink RX12 68 "ShortEnoughModel" "op" "[I", Cond.fieldLink RX12 112 "ShortEnoughModel" "wideNumber" "I", Cond.fieldLink RX12 115 "ShortEnoughModel" "wideBy" "J", Cond.fieldLink RX12 106 "ShortEnoughModel" "least" "[J", Cond.fieldLink RX12 77 "ShortEnoughModel" "firstV" "[J", Cond.fieldLink RX12 109 "ShortEnoughModel" "greatest" "[J", Cond.fieldLink RX12 81 "ShortEnoughModel" "secondV" "[J", Cond.methodLink RX12 399 yX12_lowOf, Cond.instanceMethod yX12_lowOf, Cond.selects RX12 yX12_lowOf yX12_lowOf, Cond.code yX12_lowOf cX12_lowOf 4 (some .long), Cond.fieldLink RX12 74 "ShortEnoughModel" "second" "[I"]
noncomputable def wsX12_passes_r2 : List Cond := [Cond.fieldLink RX12 71 "ShortEnoughModel" "first" "[I", Cond.methodLink RX12 403 yX12_highOf, Cond.instanceMethod yX12_highOf, Cond.selects RX12 yX12_highOf yX12_highOf, Cond.code yX12_highOf cX12_highOf 4 (some .long), Cond.methodLink RX12 406 yX12_two, Cond.static yX12_two, Cond.code yX12_two cX12_two 7 (some .long), Cond.methodLink RX12 392 yX12_roundedProduct, Cond.static yX12_roundedProduct, Cond.code yX12_roundedProduct cX12_roundedProduct 6 (some .long), Cond.constantLong RX12 383 (2), Cond.constantLong RX12 388 (1000), Cond.constantLong RX12 390 (2000), Cond.methodLink RX12 385 yX12_floor, Cond.static yX12_floor, Cond.code yX12_floor cX12_floor 6 (some .long), Cond.methodLink RX12 322 yX12_lesser, Cond.static yX12_lesser, Cond.code yX12_lesser cX12_lesser 4 (some .long), Cond.methodLink RX12 396 yX12_greater, Cond.static yX12_greater, Cond.code yX12_greater cX12_greater 4 (some .long), Cond.methodLink RX12 430 yX12_laysError]
noncomputable def wsX12_passes_r3 : List Cond := [Cond.instanceMethod yX12_laysError, Cond.selects RX12 yX12_laysError yX12_laysError, Cond.code yX12_laysError cX12_laysError 12 none, Cond.fieldLink RX12 53 "ShortEnoughModel" "step" "[I", Cond.methodLink RX12 427 yX12_castError, Cond.instanceMethod yX12_castError, Cond.selects RX12 yX12_castError yX12_castError, Cond.code yX12_castError cX12_castError 6 (some .long), Cond.methodLink RX12 410 yX12_amount, Cond.static yX12_amount, Cond.code yX12_amount cX12_amount 2 (some .long), Cond.methodLink RX12 420 yX12_mostOf, Cond.instanceMethod yX12_mostOf, Cond.selects RX12 yX12_mostOf yX12_mostOf, Cond.code yX12_mostOf cX12_mostOf 2 (some .long)]
noncomputable def wsX12_passes : List Cond := .code yX12_passes cX12_passes 2 (some .boolean) :: ((wsX12_passes_r1 ++ (wsX12_passes_r2 ++ wsX12_passes_r3)) ++ wsX120)
noncomputable def wsX12_isCast : List Cond := .code yX12_isCast cX12_isCast 3 (some .boolean) :: ([Cond.fieldLink RX12 132 "ShortEnoughModel" "tried" "[I"] ++ wsX120)
noncomputable def wsX12_castsTried : List Cond := .code yX12_castsTried cX12_castsTried 3 (some .int) :: ([Cond.fieldLink RX12 62 "ShortEnoughModel" "numbers" "[I", Cond.fieldLink RX12 71 "ShortEnoughModel" "first" "[I", Cond.fieldLink RX12 74 "ShortEnoughModel" "second" "[I", Cond.methodLink RX12 433 yX12_isCast, Cond.instanceMethod yX12_isCast, Cond.selects RX12 yX12_isCast yX12_isCast, Cond.initialized RX12, Cond.code yX12_isCast cX12_isCast 3 (some .boolean), Cond.fieldLink RX12 132 "ShortEnoughModel" "tried" "[I"] ++ wsX120)
noncomputable def wsX12_costTried : List Cond := .code yX12_costTried cX12_costTried 3 (some .int) :: ([Cond.fieldLink RX12 84 "ShortEnoughModel" "castCost" "[I", Cond.fieldLink RX12 62 "ShortEnoughModel" "numbers" "[I", Cond.fieldLink RX12 59 "ShortEnoughModel" "formatCost" "[I", Cond.fieldLink RX12 132 "ShortEnoughModel" "tried" "[I", Cond.methodLink RX12 437 yX12_castsTried, Cond.instanceMethod yX12_castsTried, Cond.selects RX12 yX12_castsTried yX12_castsTried, Cond.initialized RX12, Cond.code yX12_castsTried cX12_castsTried 3 (some .int), Cond.fieldLink RX12 71 "ShortEnoughModel" "first" "[I", Cond.fieldLink RX12 74 "ShortEnoughModel" "second" "[I", Cond.methodLink RX12 433 yX12_isCast, Cond.instanceMethod yX12_isCast, Cond.selects RX12 yX12_isCast yX12_isCast, Cond.code yX12_isCast cX12_isCast 3 (some .boolean)] ++ wsX120)
noncomputable def wsX12_handPasses_r1 : List Cond := [Cond.fieldLink RX12 112 "ShortEnoughModel" "wideNumber" "I", Cond.fieldLink RX12 128 "ShortEnoughModel" "hasHand" "Z", Cond.fieldLink RX12 62 "ShortEnoughModel" "numbers" "[I", Cond.methodLink RX12 440 yX12_triesHand, Cond.instanceMethod yX12_triesHand, Cond.selects RX12 yX12_triesHand yX12_triesHand, Cond.initialized RX12, Cond.code yX12_triesHand cX12_triesHand 2 none, Cond.fieldLink RX12 132 "ShortEnoughModel" "tried" "[I", Cond.fieldLink RX12 125 "ShortEnoughModel" "hand" "[I", Cond.methodLink RX12 443 yX12_passes, Cond.instanceMethod yX12_passes, Cond.selects RX12 yX12_passes yX12_passes, Cond.code yX12_passes cX12_passes 2 (some .boolean), Cond.fieldLink RX12 138 "ShortEnoughModel" "failsAt" "I", Cond.fieldLink RX12 141 "ShortEnoughModel" "failsWhy" "I", Cond.fieldLink RX12 135 "ShortEnoughModel" "error" "[J", Cond.fieldLink RX12 56 "ShortEnoughModel" "most" "[I", Cond.fieldLink RX12 90 "ShortEnoughModel" "within" "[I", Cond.methodLink RX12 417 yX12_laysRange, Cond.instanceMethod yX12_laysRange, Cond.selects RX12 yX12_laysRange yX12_laysRange, Cond.code yX12_laysRange cX12_laysRange 18 none, Cond.fieldLink RX12 68 "ShortEnoughModel" "op" "[I"]
noncomputable def wsX12_handPasses_r2 : List Cond := [Cond.fieldLink RX12 115 "ShortEnoughModel" "wideBy" "J", Cond.fieldLink RX12 106 "ShortEnoughModel" "least" "[J", Cond.fieldLink RX12 77 "ShortEnoughModel" "firstV" "[J", Cond.fieldLink RX12 109 "ShortEnoughModel" "greatest" "[J", Cond.fieldLink RX12 81 "ShortEnoughModel" "secondV" "[J", Cond.methodLink RX12 399 yX12_lowOf, Cond.instanceMethod yX12_lowOf, Cond.selects RX12 yX12_lowOf yX12_lowOf, Cond.code yX12_lowOf cX12_lowOf 4 (some .long), Cond.fieldLink RX12 74 "ShortEnoughModel" "second" "[I", Cond.fieldLink RX12 71 "ShortEnoughModel" "first" "[I", Cond.methodLink RX12 403 yX12_highOf, Cond.instanceMethod yX12_highOf, Cond.selects RX12 yX12_highOf yX12_highOf, Cond.code yX12_highOf cX12_highOf 4 (some .long), Cond.methodLink RX12 406 yX12_two, Cond.static yX12_two, Cond.code yX12_two cX12_two 7 (some .long), Cond.methodLink RX12 392 yX12_roundedProduct, Cond.static yX12_roundedProduct, Cond.code yX12_roundedProduct cX12_roundedProduct 6 (some .long), Cond.constantLong RX12 383 (2), Cond.constantLong RX12 388 (1000), Cond.constantLong RX12 390 (2000)]
noncomputable def wsX12_handPasses_r3 : List Cond := [Cond.methodLink RX12 385 yX12_floor, Cond.static yX12_floor, Cond.code yX12_floor cX12_floor 6 (some .long), Cond.methodLink RX12 322 yX12_lesser, Cond.static yX12_lesser, Cond.code yX12_lesser cX12_lesser 4 (some .long), Cond.methodLink RX12 396 yX12_greater, Cond.static yX12_greater, Cond.code yX12_greater cX12_greater 4 (some .long), Cond.methodLink RX12 430 yX12_laysError, Cond.instanceMethod yX12_laysError, Cond.selects RX12 yX12_laysError yX12_laysError, Cond.code yX12_laysError cX12_laysError 12 none, Cond.fieldLink RX12 53 "ShortEnoughModel" "step" "[I", Cond.methodLink RX12 427 yX12_castError, Cond.instanceMethod yX12_castError, Cond.selects RX12 yX12_castError yX12_castError, Cond.code yX12_castError cX12_castError 6 (some .long), Cond.methodLink RX12 410 yX12_amount, Cond.static yX12_amount, Cond.code yX12_amount cX12_amount 2 (some .long), Cond.methodLink RX12 420 yX12_mostOf, Cond.instanceMethod yX12_mostOf, Cond.selects RX12 yX12_mostOf yX12_mostOf]
noncomputable def wsX12_handPasses_r4 : List Cond := [Cond.code yX12_mostOf cX12_mostOf 2 (some .long)]
noncomputable def wsX12_handPasses : List Cond := .code yX12_handPasses cX12_handPasses 1 (some .boolean) :: ((wsX12_handPasses_r1 ++ (wsX12_handPasses_r2 ++ (wsX12_handPasses_r3 ++ wsX12_handPasses_r4))) ++ wsX120)
noncomputable def wsX12_chosen : List Cond := .code yX12_chosen cX12_chosen 2 (some .int) :: ([Cond.fieldLink RX12 128 "ShortEnoughModel" "hasHand" "Z", Cond.fieldLink RX12 125 "ShortEnoughModel" "hand" "[I", Cond.methodLink RX12 373 yX12_isNumber, Cond.instanceMethod yX12_isNumber, Cond.selects RX12 yX12_isNumber yX12_isNumber, Cond.initialized RX12, Cond.code yX12_isNumber cX12_isNumber 2 (some .boolean), Cond.fieldLink RX12 62 "ShortEnoughModel" "numbers" "[I", Cond.methodLink RX12 263 yX12_isIn, Cond.static yX12_isIn, Cond.code yX12_isIn cX12_isIn 6 (some .boolean)] ++ wsX120)
noncomputable def wsX12_choose_r1 : List Cond := [Cond.fieldLink RX12 128 "ShortEnoughModel" "hasHand" "Z", Cond.fieldLink RX12 93 "ShortEnoughModel" "groupOf" "[I", Cond.fieldLink RX12 125 "ShortEnoughModel" "hand" "[I", Cond.fieldLink RX12 62 "ShortEnoughModel" "numbers" "[I", Cond.methodLink RX12 373 yX12_isNumber, Cond.instanceMethod yX12_isNumber, Cond.selects RX12 yX12_isNumber yX12_isNumber, Cond.initialized RX12, Cond.code yX12_isNumber cX12_isNumber 2 (some .boolean), Cond.methodLink RX12 263 yX12_isIn, Cond.static yX12_isIn, Cond.code yX12_isIn cX12_isIn 6 (some .boolean), Cond.methodLink RX12 370 yX12_isFormat, Cond.instanceMethod yX12_isFormat, Cond.selects RX12 yX12_isFormat yX12_isFormat, Cond.code yX12_isFormat cX12_isFormat 2 (some .boolean), Cond.fieldLink RX12 47 "ShortEnoughModel" "formats" "[I", Cond.methodLink RX12 355 yX12_isFree, Cond.instanceMethod yX12_isFree, Cond.selects RX12 yX12_isFree yX12_isFree, Cond.code yX12_isFree cX12_isFree 3 (some .boolean), Cond.fieldLink RX12 87 "ShortEnoughModel" "fixedAs" "[I", Cond.methodLink RX12 216 yX12_refuses, Cond.instanceMethod yX12_refuses]
noncomputable def wsX12_choose_r2 : List Cond := [Cond.selects RX12 yX12_refuses yX12_refuses, Cond.code yX12_refuses cX12_refuses 2 (some .int), Cond.fieldLink RX12 17 "ShortEnoughModel" "refused" "[I"]
noncomputable def wsX12_choose : List Cond := .code yX12_choose cX12_choose 5 (some .int) :: ((wsX12_choose_r1 ++ wsX12_choose_r2) ++ wsX120)
noncomputable def wsX12_isThere : List Cond := .code yX12_isThere cX12_isThere 1 (some .boolean) :: ([Cond.fieldLink RX12 128 "ShortEnoughModel" "hasHand" "Z", Cond.fieldLink RX12 62 "ShortEnoughModel" "numbers" "[I"] ++ wsX120)
noncomputable def wsX12_cost_r1 : List Cond := [Cond.methodLink RX12 446 yX12_isThere, Cond.instanceMethod yX12_isThere, Cond.selects RX12 yX12_isThere yX12_isThere, Cond.initialized RX12, Cond.code yX12_isThere cX12_isThere 1 (some .boolean), Cond.fieldLink RX12 128 "ShortEnoughModel" "hasHand" "Z", Cond.fieldLink RX12 62 "ShortEnoughModel" "numbers" "[I", Cond.methodLink RX12 440 yX12_triesHand, Cond.instanceMethod yX12_triesHand, Cond.selects RX12 yX12_triesHand yX12_triesHand, Cond.code yX12_triesHand cX12_triesHand 2 none, Cond.fieldLink RX12 132 "ShortEnoughModel" "tried" "[I", Cond.fieldLink RX12 125 "ShortEnoughModel" "hand" "[I", Cond.methodLink RX12 449 yX12_costTried, Cond.instanceMethod yX12_costTried, Cond.selects RX12 yX12_costTried yX12_costTried, Cond.code yX12_costTried cX12_costTried 3 (some .int), Cond.fieldLink RX12 84 "ShortEnoughModel" "castCost" "[I", Cond.fieldLink RX12 59 "ShortEnoughModel" "formatCost" "[I", Cond.methodLink RX12 437 yX12_castsTried, Cond.instanceMethod yX12_castsTried, Cond.selects RX12 yX12_castsTried yX12_castsTried, Cond.code yX12_castsTried cX12_castsTried 3 (some .int), Cond.fieldLink RX12 71 "ShortEnoughModel" "first" "[I"]
noncomputable def wsX12_cost_r2 : List Cond := [Cond.fieldLink RX12 74 "ShortEnoughModel" "second" "[I", Cond.methodLink RX12 433 yX12_isCast, Cond.instanceMethod yX12_isCast, Cond.selects RX12 yX12_isCast yX12_isCast, Cond.code yX12_isCast cX12_isCast 3 (some .boolean)]
noncomputable def wsX12_cost : List Cond := .code yX12_cost cX12_cost 1 (some .int) :: ((wsX12_cost_r1 ++ wsX12_cost_r2) ++ wsX120)
noncomputable def wsX12_casts : List Cond := .code yX12_casts cX12_casts 1 (some .int) :: ([Cond.methodLink RX12 446 yX12_isThere, Cond.instanceMethod yX12_isThere, Cond.selects RX12 yX12_isThere yX12_isThere, Cond.initialized RX12, Cond.code yX12_isThere cX12_isThere 1 (some .boolean), Cond.fieldLink RX12 128 "ShortEnoughModel" "hasHand" "Z", Cond.fieldLink RX12 62 "ShortEnoughModel" "numbers" "[I", Cond.methodLink RX12 440 yX12_triesHand, Cond.instanceMethod yX12_triesHand, Cond.selects RX12 yX12_triesHand yX12_triesHand, Cond.code yX12_triesHand cX12_triesHand 2 none, Cond.fieldLink RX12 132 "ShortEnoughModel" "tried" "[I", Cond.fieldLink RX12 125 "ShortEnoughModel" "hand" "[I", Cond.methodLink RX12 437 yX12_castsTried, Cond.instanceMethod yX12_castsTried, Cond.selects RX12 yX12_castsTried yX12_castsTried, Cond.code yX12_castsTried cX12_castsTried 3 (some .int), Cond.fieldLink RX12 71 "ShortEnoughModel" "first" "[I", Cond.fieldLink RX12 74 "ShortEnoughModel" "second" "[I", Cond.methodLink RX12 433 yX12_isCast, Cond.instanceMethod yX12_isCast, Cond.selects RX12 yX12_isCast yX12_isCast, Cond.code yX12_isCast cX12_isCast 3 (some .boolean)] ++ wsX120)
noncomputable def wsX12_fails_r1 : List Cond := [Cond.fieldLink RX12 138 "ShortEnoughModel" "failsAt" "I", Cond.methodLink RX12 446 yX12_isThere, Cond.instanceMethod yX12_isThere, Cond.selects RX12 yX12_isThere yX12_isThere, Cond.initialized RX12, Cond.code yX12_isThere cX12_isThere 1 (some .boolean), Cond.fieldLink RX12 128 "ShortEnoughModel" "hasHand" "Z", Cond.fieldLink RX12 62 "ShortEnoughModel" "numbers" "[I", Cond.methodLink RX12 452 yX12_handPasses, Cond.instanceMethod yX12_handPasses, Cond.selects RX12 yX12_handPasses yX12_handPasses, Cond.code yX12_handPasses cX12_handPasses 1 (some .boolean), Cond.fieldLink RX12 112 "ShortEnoughModel" "wideNumber" "I", Cond.methodLink RX12 440 yX12_triesHand, Cond.instanceMethod yX12_triesHand, Cond.selects RX12 yX12_triesHand yX12_triesHand, Cond.code yX12_triesHand cX12_triesHand 2 none, Cond.fieldLink RX12 132 "ShortEnoughModel" "tried" "[I", Cond.fieldLink RX12 125 "ShortEnoughModel" "hand" "[I", Cond.methodLink RX12 443 yX12_passes, Cond.instanceMethod yX12_passes, Cond.selects RX12 yX12_passes yX12_passes, Cond.code yX12_passes cX12_passes 2 (some .boolean), Cond.fieldLink RX12 141 "ShortEnoughModel" "failsWhy" "I"]
noncomputable def wsX12_fails_r2 : List Cond := [Cond.fieldLink RX12 135 "ShortEnoughModel" "error" "[J", Cond.fieldLink RX12 56 "ShortEnoughModel" "most" "[I", Cond.fieldLink RX12 90 "ShortEnoughModel" "within" "[I", Cond.methodLink RX12 417 yX12_laysRange, Cond.instanceMethod yX12_laysRange, Cond.selects RX12 yX12_laysRange yX12_laysRange, Cond.code yX12_laysRange cX12_laysRange 18 none, Cond.fieldLink RX12 68 "ShortEnoughModel" "op" "[I", Cond.fieldLink RX12 115 "ShortEnoughModel" "wideBy" "J", Cond.fieldLink RX12 106 "ShortEnoughModel" "least" "[J", Cond.fieldLink RX12 77 "ShortEnoughModel" "firstV" "[J", Cond.fieldLink RX12 109 "ShortEnoughModel" "greatest" "[J", Cond.fieldLink RX12 81 "ShortEnoughModel" "secondV" "[J", Cond.methodLink RX12 399 yX12_lowOf, Cond.instanceMethod yX12_lowOf, Cond.selects RX12 yX12_lowOf yX12_lowOf, Cond.code yX12_lowOf cX12_lowOf 4 (some .long), Cond.fieldLink RX12 74 "ShortEnoughModel" "second" "[I", Cond.fieldLink RX12 71 "ShortEnoughModel" "first" "[I", Cond.methodLink RX12 403 yX12_highOf, Cond.instanceMethod yX12_highOf, Cond.selects RX12 yX12_highOf yX12_highOf, Cond.code yX12_highOf cX12_highOf 4 (some .long), Cond.methodLink RX12 406 yX12_two]
noncomputable def wsX12_fails_r3 : List Cond := [Cond.static yX12_two, Cond.code yX12_two cX12_two 7 (some .long), Cond.methodLink RX12 392 yX12_roundedProduct, Cond.static yX12_roundedProduct, Cond.code yX12_roundedProduct cX12_roundedProduct 6 (some .long), Cond.constantLong RX12 383 (2), Cond.constantLong RX12 388 (1000), Cond.constantLong RX12 390 (2000), Cond.methodLink RX12 385 yX12_floor, Cond.static yX12_floor, Cond.code yX12_floor cX12_floor 6 (some .long), Cond.methodLink RX12 322 yX12_lesser, Cond.static yX12_lesser, Cond.code yX12_lesser cX12_lesser 4 (some .long), Cond.methodLink RX12 396 yX12_greater, Cond.static yX12_greater, Cond.code yX12_greater cX12_greater 4 (some .long), Cond.methodLink RX12 430 yX12_laysError, Cond.instanceMethod yX12_laysError, Cond.selects RX12 yX12_laysError yX12_laysError, Cond.code yX12_laysError cX12_laysError 12 none, Cond.fieldLink RX12 53 "ShortEnoughModel" "step" "[I", Cond.methodLink RX12 427 yX12_castError, Cond.instanceMethod yX12_castError]
noncomputable def wsX12_fails_r4 : List Cond := [Cond.selects RX12 yX12_castError yX12_castError, Cond.code yX12_castError cX12_castError 6 (some .long), Cond.methodLink RX12 410 yX12_amount, Cond.static yX12_amount, Cond.code yX12_amount cX12_amount 2 (some .long), Cond.methodLink RX12 420 yX12_mostOf, Cond.instanceMethod yX12_mostOf, Cond.selects RX12 yX12_mostOf yX12_mostOf, Cond.code yX12_mostOf cX12_mostOf 2 (some .long)]
noncomputable def wsX12_fails : List Cond := .code yX12_fails cX12_fails 1 (some .int) :: ((wsX12_fails_r1 ++ (wsX12_fails_r2 ++ (wsX12_fails_r3 ++ wsX12_fails_r4))) ++ wsX120)
noncomputable def wsX12_why_r1 : List Cond := [Cond.fieldLink RX12 141 "ShortEnoughModel" "failsWhy" "I", Cond.methodLink RX12 446 yX12_isThere, Cond.instanceMethod yX12_isThere, Cond.selects RX12 yX12_isThere yX12_isThere, Cond.initialized RX12, Cond.code yX12_isThere cX12_isThere 1 (some .boolean), Cond.fieldLink RX12 128 "ShortEnoughModel" "hasHand" "Z", Cond.fieldLink RX12 62 "ShortEnoughModel" "numbers" "[I", Cond.methodLink RX12 452 yX12_handPasses, Cond.instanceMethod yX12_handPasses, Cond.selects RX12 yX12_handPasses yX12_handPasses, Cond.code yX12_handPasses cX12_handPasses 1 (some .boolean), Cond.fieldLink RX12 112 "ShortEnoughModel" "wideNumber" "I", Cond.methodLink RX12 440 yX12_triesHand, Cond.instanceMethod yX12_triesHand, Cond.selects RX12 yX12_triesHand yX12_triesHand, Cond.code yX12_triesHand cX12_triesHand 2 none, Cond.fieldLink RX12 132 "ShortEnoughModel" "tried" "[I", Cond.fieldLink RX12 125 "ShortEnoughModel" "hand" "[I", Cond.methodLink RX12 443 yX12_passes, Cond.instanceMethod yX12_passes, Cond.selects RX12 yX12_passes yX12_passes, Cond.code yX12_passes cX12_passes 2 (some .boolean), Cond.fieldLink RX12 138 "ShortEnoughModel" "failsAt" "I"]
noncomputable def wsX12_why_r2 : List Cond := [Cond.fieldLink RX12 135 "ShortEnoughModel" "error" "[J", Cond.fieldLink RX12 56 "ShortEnoughModel" "most" "[I", Cond.fieldLink RX12 90 "ShortEnoughModel" "within" "[I", Cond.methodLink RX12 417 yX12_laysRange, Cond.instanceMethod yX12_laysRange, Cond.selects RX12 yX12_laysRange yX12_laysRange, Cond.code yX12_laysRange cX12_laysRange 18 none, Cond.fieldLink RX12 68 "ShortEnoughModel" "op" "[I", Cond.fieldLink RX12 115 "ShortEnoughModel" "wideBy" "J", Cond.fieldLink RX12 106 "ShortEnoughModel" "least" "[J", Cond.fieldLink RX12 77 "ShortEnoughModel" "firstV" "[J", Cond.fieldLink RX12 109 "ShortEnoughModel" "greatest" "[J", Cond.fieldLink RX12 81 "ShortEnoughModel" "secondV" "[J", Cond.methodLink RX12 399 yX12_lowOf, Cond.instanceMethod yX12_lowOf, Cond.selects RX12 yX12_lowOf yX12_lowOf, Cond.code yX12_lowOf cX12_lowOf 4 (some .long), Cond.fieldLink RX12 74 "ShortEnoughModel" "second" "[I", Cond.fieldLink RX12 71 "ShortEnoughModel" "first" "[I", Cond.methodLink RX12 403 yX12_highOf, Cond.instanceMethod yX12_highOf, Cond.selects RX12 yX12_highOf yX12_highOf, Cond.code yX12_highOf cX12_highOf 4 (some .long), Cond.methodLink RX12 406 yX12_two]
noncomputable def wsX12_why_r3 : List Cond := [Cond.static yX12_two, Cond.code yX12_two cX12_two 7 (some .long), Cond.methodLink RX12 392 yX12_roundedProduct, Cond.static yX12_roundedProduct, Cond.code yX12_roundedProduct cX12_roundedProduct 6 (some .long), Cond.constantLong RX12 383 (2), Cond.constantLong RX12 388 (1000), Cond.constantLong RX12 390 (2000), Cond.methodLink RX12 385 yX12_floor, Cond.static yX12_floor, Cond.code yX12_floor cX12_floor 6 (some .long), Cond.methodLink RX12 322 yX12_lesser, Cond.static yX12_lesser, Cond.code yX12_lesser cX12_lesser 4 (some .long), Cond.methodLink RX12 396 yX12_greater, Cond.static yX12_greater, Cond.code yX12_greater cX12_greater 4 (some .long), Cond.methodLink RX12 430 yX12_laysError, Cond.instanceMethod yX12_laysError, Cond.selects RX12 yX12_laysError yX12_laysError, Cond.code yX12_laysError cX12_laysError 12 none, Cond.fieldLink RX12 53 "ShortEnoughModel" "step" "[I", Cond.methodLink RX12 427 yX12_castError, Cond.instanceMethod yX12_castError]
noncomputable def wsX12_why_r4 : List Cond := [Cond.selects RX12 yX12_castError yX12_castError, Cond.code yX12_castError cX12_castError 6 (some .long), Cond.methodLink RX12 410 yX12_amount, Cond.static yX12_amount, Cond.code yX12_amount cX12_amount 2 (some .long), Cond.methodLink RX12 420 yX12_mostOf, Cond.instanceMethod yX12_mostOf, Cond.selects RX12 yX12_mostOf yX12_mostOf, Cond.code yX12_mostOf cX12_mostOf 2 (some .long)]
noncomputable def wsX12_why : List Cond := .code yX12_why cX12_why 1 (some .int) :: ((wsX12_why_r1 ++ (wsX12_why_r2 ++ (wsX12_why_r3 ++ wsX12_why_r4))) ++ wsX120)
noncomputable def wsX12_error_r1 : List Cond := [Cond.constantLong RX12 381 (-1000000000000000), Cond.fieldLink RX12 138 "ShortEnoughModel" "failsAt" "I", Cond.fieldLink RX12 135 "ShortEnoughModel" "error" "[J", Cond.methodLink RX12 446 yX12_isThere, Cond.instanceMethod yX12_isThere, Cond.selects RX12 yX12_isThere yX12_isThere, Cond.initialized RX12, Cond.code yX12_isThere cX12_isThere 1 (some .boolean), Cond.fieldLink RX12 128 "ShortEnoughModel" "hasHand" "Z", Cond.fieldLink RX12 62 "ShortEnoughModel" "numbers" "[I", Cond.methodLink RX12 373 yX12_isNumber, Cond.instanceMethod yX12_isNumber, Cond.selects RX12 yX12_isNumber yX12_isNumber, Cond.code yX12_isNumber cX12_isNumber 2 (some .boolean), Cond.methodLink RX12 263 yX12_isIn, Cond.static yX12_isIn, Cond.code yX12_isIn cX12_isIn 6 (some .boolean), Cond.methodLink RX12 452 yX12_handPasses, Cond.instanceMethod yX12_handPasses, Cond.selects RX12 yX12_handPasses yX12_handPasses, Cond.code yX12_handPasses cX12_handPasses 1 (some .boolean), Cond.fieldLink RX12 112 "ShortEnoughModel" "wideNumber" "I", Cond.methodLink RX12 440 yX12_triesHand, Cond.instanceMethod yX12_triesHand]
noncomputable def wsX12_error_r2 : List Cond := [Cond.selects RX12 yX12_triesHand yX12_triesHand, Cond.code yX12_triesHand cX12_triesHand 2 none, Cond.fieldLink RX12 132 "ShortEnoughModel" "tried" "[I", Cond.fieldLink RX12 125 "ShortEnoughModel" "hand" "[I", Cond.methodLink RX12 443 yX12_passes, Cond.instanceMethod yX12_passes, Cond.selects RX12 yX12_passes yX12_passes, Cond.code yX12_passes cX12_passes 2 (some .boolean), Cond.fieldLink RX12 141 "ShortEnoughModel" "failsWhy" "I", Cond.fieldLink RX12 56 "ShortEnoughModel" "most" "[I", Cond.fieldLink RX12 90 "ShortEnoughModel" "within" "[I", Cond.methodLink RX12 417 yX12_laysRange, Cond.instanceMethod yX12_laysRange, Cond.selects RX12 yX12_laysRange yX12_laysRange, Cond.code yX12_laysRange cX12_laysRange 18 none, Cond.fieldLink RX12 68 "ShortEnoughModel" "op" "[I", Cond.fieldLink RX12 115 "ShortEnoughModel" "wideBy" "J", Cond.fieldLink RX12 106 "ShortEnoughModel" "least" "[J", Cond.fieldLink RX12 77 "ShortEnoughModel" "firstV" "[J", Cond.fieldLink RX12 109 "ShortEnoughModel" "greatest" "[J", Cond.fieldLink RX12 81 "ShortEnoughModel" "secondV" "[J", Cond.methodLink RX12 399 yX12_lowOf, Cond.instanceMethod yX12_lowOf, Cond.selects RX12 yX12_lowOf yX12_lowOf]
noncomputable def wsX12_error_r3 : List Cond := [Cond.code yX12_lowOf cX12_lowOf 4 (some .long), Cond.fieldLink RX12 74 "ShortEnoughModel" "second" "[I", Cond.fieldLink RX12 71 "ShortEnoughModel" "first" "[I", Cond.methodLink RX12 403 yX12_highOf, Cond.instanceMethod yX12_highOf, Cond.selects RX12 yX12_highOf yX12_highOf, Cond.code yX12_highOf cX12_highOf 4 (some .long), Cond.methodLink RX12 406 yX12_two, Cond.static yX12_two, Cond.code yX12_two cX12_two 7 (some .long), Cond.methodLink RX12 392 yX12_roundedProduct, Cond.static yX12_roundedProduct, Cond.code yX12_roundedProduct cX12_roundedProduct 6 (some .long), Cond.constantLong RX12 383 (2), Cond.constantLong RX12 388 (1000), Cond.constantLong RX12 390 (2000), Cond.methodLink RX12 385 yX12_floor, Cond.static yX12_floor, Cond.code yX12_floor cX12_floor 6 (some .long), Cond.methodLink RX12 322 yX12_lesser, Cond.static yX12_lesser, Cond.code yX12_lesser cX12_lesser 4 (some .long), Cond.methodLink RX12 396 yX12_greater, Cond.static yX12_greater]
noncomputable def wsX12_error_r4 : List Cond := [Cond.code yX12_greater cX12_greater 4 (some .long), Cond.methodLink RX12 430 yX12_laysError, Cond.instanceMethod yX12_laysError, Cond.selects RX12 yX12_laysError yX12_laysError, Cond.code yX12_laysError cX12_laysError 12 none, Cond.fieldLink RX12 53 "ShortEnoughModel" "step" "[I", Cond.methodLink RX12 427 yX12_castError, Cond.instanceMethod yX12_castError, Cond.selects RX12 yX12_castError yX12_castError, Cond.code yX12_castError cX12_castError 6 (some .long), Cond.methodLink RX12 410 yX12_amount, Cond.static yX12_amount, Cond.code yX12_amount cX12_amount 2 (some .long), Cond.methodLink RX12 420 yX12_mostOf, Cond.instanceMethod yX12_mostOf, Cond.selects RX12 yX12_mostOf yX12_mostOf, Cond.code yX12_mostOf cX12_mostOf 2 (some .long)]
noncomputable def wsX12_error : List Cond := .code yX12_error cX12_error 3 (some .long) :: ((wsX12_error_r1 ++ (wsX12_error_r2 ++ (wsX12_error_r3 ++ wsX12_error_r4))) ++ wsX120)
noncomputable def wsX12_isAnswer : List Cond := .code yX12_isAnswer cX12_isAnswer 2 (some .boolean) :: ([Cond.fieldLink RX12 90 "ShortEnoughModel" "within" "[I", Cond.methodLink RX12 373 yX12_isNumber, Cond.instanceMethod yX12_isNumber, Cond.selects RX12 yX12_isNumber yX12_isNumber, Cond.initialized RX12, Cond.code yX12_isNumber cX12_isNumber 2 (some .boolean), Cond.fieldLink RX12 62 "ShortEnoughModel" "numbers" "[I", Cond.methodLink RX12 263 yX12_isIn, Cond.static yX12_isIn, Cond.code yX12_isIn cX12_isIn 6 (some .boolean)] ++ wsX120)
noncomputable def wsX12_slack_r1 : List Cond := [Cond.fieldLink RX12 90 "ShortEnoughModel" "within" "[I", Cond.fieldLink RX12 135 "ShortEnoughModel" "error" "[J", Cond.constantLong RX12 381 (-1000000000000000), Cond.methodLink RX12 455 yX12_isAnswer, Cond.instanceMethod yX12_isAnswer, Cond.selects RX12 yX12_isAnswer yX12_isAnswer, Cond.initialized RX12, Cond.code yX12_isAnswer cX12_isAnswer 2 (some .boolean), Cond.methodLink RX12 373 yX12_isNumber, Cond.instanceMethod yX12_isNumber, Cond.selects RX12 yX12_isNumber yX12_isNumber, Cond.code yX12_isNumber cX12_isNumber 2 (some .boolean), Cond.fieldLink RX12 62 "ShortEnoughModel" "numbers" "[I", Cond.methodLink RX12 263 yX12_isIn, Cond.static yX12_isIn, Cond.code yX12_isIn cX12_isIn 6 (some .boolean), Cond.methodLink RX12 452 yX12_handPasses, Cond.instanceMethod yX12_handPasses, Cond.selects RX12 yX12_handPasses yX12_handPasses, Cond.code yX12_handPasses cX12_handPasses 1 (some .boolean), Cond.fieldLink RX12 112 "ShortEnoughModel" "wideNumber" "I", Cond.fieldLink RX12 128 "ShortEnoughModel" "hasHand" "Z", Cond.methodLink RX12 440 yX12_triesHand, Cond.instanceMethod yX12_triesHand]
noncomputable def wsX12_slack_r2 : List Cond := [Cond.selects RX12 yX12_triesHand yX12_triesHand, Cond.code yX12_triesHand cX12_triesHand 2 none, Cond.fieldLink RX12 132 "ShortEnoughModel" "tried" "[I", Cond.fieldLink RX12 125 "ShortEnoughModel" "hand" "[I", Cond.methodLink RX12 443 yX12_passes, Cond.instanceMethod yX12_passes, Cond.selects RX12 yX12_passes yX12_passes, Cond.code yX12_passes cX12_passes 2 (some .boolean), Cond.fieldLink RX12 138 "ShortEnoughModel" "failsAt" "I", Cond.fieldLink RX12 141 "ShortEnoughModel" "failsWhy" "I", Cond.fieldLink RX12 56 "ShortEnoughModel" "most" "[I", Cond.methodLink RX12 417 yX12_laysRange, Cond.instanceMethod yX12_laysRange, Cond.selects RX12 yX12_laysRange yX12_laysRange, Cond.code yX12_laysRange cX12_laysRange 18 none, Cond.fieldLink RX12 68 "ShortEnoughModel" "op" "[I", Cond.fieldLink RX12 115 "ShortEnoughModel" "wideBy" "J", Cond.fieldLink RX12 106 "ShortEnoughModel" "least" "[J", Cond.fieldLink RX12 77 "ShortEnoughModel" "firstV" "[J", Cond.fieldLink RX12 109 "ShortEnoughModel" "greatest" "[J", Cond.fieldLink RX12 81 "ShortEnoughModel" "secondV" "[J", Cond.methodLink RX12 399 yX12_lowOf, Cond.instanceMethod yX12_lowOf, Cond.selects RX12 yX12_lowOf yX12_lowOf]
noncomputable def wsX12_slack_r3 : List Cond := [Cond.code yX12_lowOf cX12_lowOf 4 (some .long), Cond.fieldLink RX12 74 "ShortEnoughModel" "second" "[I", Cond.fieldLink RX12 71 "ShortEnoughModel" "first" "[I", Cond.methodLink RX12 403 yX12_highOf, Cond.instanceMethod yX12_highOf, Cond.selects RX12 yX12_highOf yX12_highOf, Cond.code yX12_highOf cX12_highOf 4 (some .long), Cond.methodLink RX12 406 yX12_two, Cond.static yX12_two, Cond.code yX12_two cX12_two 7 (some .long), Cond.methodLink RX12 392 yX12_roundedProduct, Cond.static yX12_roundedProduct, Cond.code yX12_roundedProduct cX12_roundedProduct 6 (some .long), Cond.constantLong RX12 383 (2), Cond.constantLong RX12 388 (1000), Cond.constantLong RX12 390 (2000), Cond.methodLink RX12 385 yX12_floor, Cond.static yX12_floor, Cond.code yX12_floor cX12_floor 6 (some .long), Cond.methodLink RX12 322 yX12_lesser, Cond.static yX12_lesser, Cond.code yX12_lesser cX12_lesser 4 (some .long), Cond.methodLink RX12 396 yX12_greater, Cond.static yX12_greater]
noncomputable def wsX12_slack_r4 : List Cond := [Cond.code yX12_greater cX12_greater 4 (some .long), Cond.methodLink RX12 430 yX12_laysError, Cond.instanceMethod yX12_laysError, Cond.selects RX12 yX12_laysError yX12_laysError, Cond.code yX12_laysError cX12_laysError 12 none, Cond.fieldLink RX12 53 "ShortEnoughModel" "step" "[I", Cond.methodLink RX12 427 yX12_castError, Cond.instanceMethod yX12_castError, Cond.selects RX12 yX12_castError yX12_castError, Cond.code yX12_castError cX12_castError 6 (some .long), Cond.methodLink RX12 410 yX12_amount, Cond.static yX12_amount, Cond.code yX12_amount cX12_amount 2 (some .long), Cond.methodLink RX12 420 yX12_mostOf, Cond.instanceMethod yX12_mostOf, Cond.selects RX12 yX12_mostOf yX12_mostOf, Cond.code yX12_mostOf cX12_mostOf 2 (some .long)]
noncomputable def wsX12_slack : List Cond := .code yX12_slack cX12_slack 2 (some .long) :: ((wsX12_slack_r1 ++ (wsX12_slack_r2 ++ (wsX12_slack_r3 ++ wsX12_slack_r4))) ++ wsX120)
noncomputable def wsX12_widest_r1 : List Cond := [Cond.fieldLink RX12 68 "ShortEnoughModel" "op" "[I", Cond.constant RX12 458 (10000000), Cond.fieldLink RX12 112 "ShortEnoughModel" "wideNumber" "I", Cond.fieldLink RX12 115 "ShortEnoughModel" "wideBy" "J", Cond.methodLink RX12 373 yX12_isNumber, Cond.instanceMethod yX12_isNumber, Cond.selects RX12 yX12_isNumber yX12_isNumber, Cond.initialized RX12, Cond.code yX12_isNumber cX12_isNumber 2 (some .boolean), Cond.fieldLink RX12 62 "ShortEnoughModel" "numbers" "[I", Cond.methodLink RX12 263 yX12_isIn, Cond.static yX12_isIn, Cond.code yX12_isIn cX12_isIn 6 (some .boolean), Cond.methodLink RX12 452 yX12_handPasses, Cond.instanceMethod yX12_handPasses, Cond.selects RX12 yX12_handPasses yX12_handPasses, Cond.code yX12_handPasses cX12_handPasses 1 (some .boolean), Cond.fieldLink RX12 128 "ShortEnoughModel" "hasHand" "Z", Cond.methodLink RX12 440 yX12_triesHand, Cond.instanceMethod yX12_triesHand, Cond.selects RX12 yX12_triesHand yX12_triesHand, Cond.code yX12_triesHand cX12_triesHand 2 none, Cond.fieldLink RX12 132 "ShortEnoughModel" "tried" "[I", Cond.fieldLink RX12 125 "ShortEnoughModel" "hand" "[I"]
noncomputable def wsX12_widest_r2 : List Cond := [Cond.methodLink RX12 443 yX12_passes, Cond.instanceMethod yX12_passes, Cond.selects RX12 yX12_passes yX12_passes, Cond.code yX12_passes cX12_passes 2 (some .boolean), Cond.fieldLink RX12 138 "ShortEnoughModel" "failsAt" "I", Cond.fieldLink RX12 141 "ShortEnoughModel" "failsWhy" "I", Cond.fieldLink RX12 135 "ShortEnoughModel" "error" "[J", Cond.fieldLink RX12 56 "ShortEnoughModel" "most" "[I", Cond.fieldLink RX12 90 "ShortEnoughModel" "within" "[I", Cond.methodLink RX12 417 yX12_laysRange, Cond.instanceMethod yX12_laysRange, Cond.selects RX12 yX12_laysRange yX12_laysRange, Cond.code yX12_laysRange cX12_laysRange 18 none, Cond.fieldLink RX12 106 "ShortEnoughModel" "least" "[J", Cond.fieldLink RX12 77 "ShortEnoughModel" "firstV" "[J", Cond.fieldLink RX12 109 "ShortEnoughModel" "greatest" "[J", Cond.fieldLink RX12 81 "ShortEnoughModel" "secondV" "[J", Cond.methodLink RX12 399 yX12_lowOf, Cond.instanceMethod yX12_lowOf, Cond.selects RX12 yX12_lowOf yX12_lowOf, Cond.code yX12_lowOf cX12_lowOf 4 (some .long), Cond.fieldLink RX12 74 "ShortEnoughModel" "second" "[I", Cond.fieldLink RX12 71 "ShortEnoughModel" "first" "[I", Cond.methodLink RX12 403 yX12_highOf]
noncomputable def wsX12_widest_r3 : List Cond := [Cond.instanceMethod yX12_highOf, Cond.selects RX12 yX12_highOf yX12_highOf, Cond.code yX12_highOf cX12_highOf 4 (some .long), Cond.methodLink RX12 406 yX12_two, Cond.static yX12_two, Cond.code yX12_two cX12_two 7 (some .long), Cond.methodLink RX12 392 yX12_roundedProduct, Cond.static yX12_roundedProduct, Cond.code yX12_roundedProduct cX12_roundedProduct 6 (some .long), Cond.constantLong RX12 383 (2), Cond.constantLong RX12 388 (1000), Cond.constantLong RX12 390 (2000), Cond.methodLink RX12 385 yX12_floor, Cond.static yX12_floor, Cond.code yX12_floor cX12_floor 6 (some .long), Cond.methodLink RX12 322 yX12_lesser, Cond.static yX12_lesser, Cond.code yX12_lesser cX12_lesser 4 (some .long), Cond.methodLink RX12 396 yX12_greater, Cond.static yX12_greater, Cond.code yX12_greater cX12_greater 4 (some .long), Cond.methodLink RX12 430 yX12_laysError, Cond.instanceMethod yX12_laysError, Cond.selects RX12 yX12_laysError yX12_laysError]
noncomputable def wsX12_widest_r4 : List Cond := [Cond.code yX12_laysError cX12_laysError 12 none, Cond.fieldLink RX12 53 "ShortEnoughModel" "step" "[I", Cond.methodLink RX12 427 yX12_castError, Cond.instanceMethod yX12_castError, Cond.selects RX12 yX12_castError yX12_castError, Cond.code yX12_castError cX12_castError 6 (some .long), Cond.methodLink RX12 410 yX12_amount, Cond.static yX12_amount, Cond.code yX12_amount cX12_amount 2 (some .long), Cond.methodLink RX12 420 yX12_mostOf, Cond.instanceMethod yX12_mostOf, Cond.selects RX12 yX12_mostOf yX12_mostOf, Cond.code yX12_mostOf cX12_mostOf 2 (some .long)]
noncomputable def wsX12_widest : List Cond := .code yX12_widest cX12_widest 5 (some .int) :: ((wsX12_widest_r1 ++ (wsX12_widest_r2 ++ (wsX12_widest_r3 ++ wsX12_widest_r4))) ++ wsX120)
noncomputable def wsX12_finest : List Cond := .code yX12_finest cX12_finest 3 (some .int) :: ([Cond.fieldLink RX12 47 "ShortEnoughModel" "formats" "[I", Cond.fieldLink RX12 53 "ShortEnoughModel" "step" "[I"] ++ wsX120)
noncomputable def wsX12_blame_r1 : List Cond := [Cond.fieldLink RX12 93 "ShortEnoughModel" "groupOf" "[I", Cond.constantLong RX12 381 (-1000000000000000), Cond.fieldLink RX12 135 "ShortEnoughModel" "error" "[J", Cond.methodLink RX12 455 yX12_isAnswer, Cond.instanceMethod yX12_isAnswer, Cond.selects RX12 yX12_isAnswer yX12_isAnswer, Cond.initialized RX12, Cond.code yX12_isAnswer cX12_isAnswer 2 (some .boolean), Cond.fieldLink RX12 90 "ShortEnoughModel" "within" "[I", Cond.methodLink RX12 373 yX12_isNumber, Cond.instanceMethod yX12_isNumber, Cond.selects RX12 yX12_isNumber yX12_isNumber, Cond.code yX12_isNumber cX12_isNumber 2 (some .boolean), Cond.fieldLink RX12 62 "ShortEnoughModel" "numbers" "[I", Cond.methodLink RX12 263 yX12_isIn, Cond.static yX12_isIn, Cond.code yX12_isIn cX12_isIn 6 (some .boolean), Cond.methodLink RX12 355 yX12_isFree, Cond.instanceMethod yX12_isFree, Cond.selects RX12 yX12_isFree yX12_isFree, Cond.code yX12_isFree cX12_isFree 3 (some .boolean), Cond.fieldLink RX12 87 "ShortEnoughModel" "fixedAs" "[I", Cond.methodLink RX12 452 yX12_handPasses, Cond.instanceMethod yX12_handPasses]
noncomputable def wsX12_blame_r2 : List Cond := [Cond.selects RX12 yX12_handPasses yX12_handPasses, Cond.code yX12_handPasses cX12_handPasses 1 (some .boolean), Cond.fieldLink RX12 112 "ShortEnoughModel" "wideNumber" "I", Cond.fieldLink RX12 128 "ShortEnoughModel" "hasHand" "Z", Cond.methodLink RX12 440 yX12_triesHand, Cond.instanceMethod yX12_triesHand, Cond.selects RX12 yX12_triesHand yX12_triesHand, Cond.code yX12_triesHand cX12_triesHand 2 none, Cond.fieldLink RX12 132 "ShortEnoughModel" "tried" "[I", Cond.fieldLink RX12 125 "ShortEnoughModel" "hand" "[I", Cond.methodLink RX12 443 yX12_passes, Cond.instanceMethod yX12_passes, Cond.selects RX12 yX12_passes yX12_passes, Cond.code yX12_passes cX12_passes 2 (some .boolean), Cond.fieldLink RX12 138 "ShortEnoughModel" "failsAt" "I", Cond.fieldLink RX12 141 "ShortEnoughModel" "failsWhy" "I", Cond.fieldLink RX12 56 "ShortEnoughModel" "most" "[I", Cond.methodLink RX12 417 yX12_laysRange, Cond.instanceMethod yX12_laysRange, Cond.selects RX12 yX12_laysRange yX12_laysRange, Cond.code yX12_laysRange cX12_laysRange 18 none, Cond.fieldLink RX12 68 "ShortEnoughModel" "op" "[I", Cond.fieldLink RX12 115 "ShortEnoughModel" "wideBy" "J", Cond.fieldLink RX12 106 "ShortEnoughModel" "least" "[J"]
noncomputable def wsX12_blame_r3 : List Cond := [Cond.fieldLink RX12 77 "ShortEnoughModel" "firstV" "[J", Cond.fieldLink RX12 109 "ShortEnoughModel" "greatest" "[J", Cond.fieldLink RX12 81 "ShortEnoughModel" "secondV" "[J", Cond.methodLink RX12 399 yX12_lowOf, Cond.instanceMethod yX12_lowOf, Cond.selects RX12 yX12_lowOf yX12_lowOf, Cond.code yX12_lowOf cX12_lowOf 4 (some .long), Cond.fieldLink RX12 74 "ShortEnoughModel" "second" "[I", Cond.fieldLink RX12 71 "ShortEnoughModel" "first" "[I", Cond.methodLink RX12 403 yX12_highOf, Cond.instanceMethod yX12_highOf, Cond.selects RX12 yX12_highOf yX12_highOf, Cond.code yX12_highOf cX12_highOf 4 (some .long), Cond.methodLink RX12 406 yX12_two, Cond.static yX12_two, Cond.code yX12_two cX12_two 7 (some .long), Cond.methodLink RX12 392 yX12_roundedProduct, Cond.static yX12_roundedProduct, Cond.code yX12_roundedProduct cX12_roundedProduct 6 (some .long), Cond.constantLong RX12 383 (2), Cond.constantLong RX12 388 (1000), Cond.constantLong RX12 390 (2000), Cond.methodLink RX12 385 yX12_floor, Cond.static yX12_floor]
noncomputable def wsX12_blame_r4 : List Cond := [Cond.code yX12_floor cX12_floor 6 (some .long), Cond.methodLink RX12 322 yX12_lesser, Cond.static yX12_lesser, Cond.code yX12_lesser cX12_lesser 4 (some .long), Cond.methodLink RX12 396 yX12_greater, Cond.static yX12_greater, Cond.code yX12_greater cX12_greater 4 (some .long), Cond.methodLink RX12 430 yX12_laysError, Cond.instanceMethod yX12_laysError, Cond.selects RX12 yX12_laysError yX12_laysError, Cond.code yX12_laysError cX12_laysError 12 none, Cond.fieldLink RX12 53 "ShortEnoughModel" "step" "[I", Cond.methodLink RX12 427 yX12_castError, Cond.instanceMethod yX12_castError, Cond.selects RX12 yX12_castError yX12_castError, Cond.code yX12_castError cX12_castError 6 (some .long), Cond.methodLink RX12 410 yX12_amount, Cond.static yX12_amount, Cond.code yX12_amount cX12_amount 2 (some .long), Cond.methodLink RX12 420 yX12_mostOf, Cond.instanceMethod yX12_mostOf, Cond.selects RX12 yX12_mostOf yX12_mostOf, Cond.code yX12_mostOf cX12_mostOf 2 (some .long), Cond.methodLink RX12 459 yX12_finest]
noncomputable def wsX12_blame_r5 : List Cond := [Cond.instanceMethod yX12_finest, Cond.selects RX12 yX12_finest yX12_finest, Cond.code yX12_finest cX12_finest 3 (some .int), Cond.fieldLink RX12 47 "ShortEnoughModel" "formats" "[I", Cond.methodLink RX12 462 yX12_triesGroup, Cond.instanceMethod yX12_triesGroup, Cond.selects RX12 yX12_triesGroup yX12_triesGroup, Cond.code yX12_triesGroup cX12_triesGroup 4 none]
noncomputable def wsX12_blame : List Cond := .code yX12_blame cX12_blame 5 (some .long) :: ((wsX12_blame_r1 ++ (wsX12_blame_r2 ++ (wsX12_blame_r3 ++ (wsX12_blame_r4 ++ wsX12_blame_r5)))) ++ wsX120)
noncomputable def wsX12_canSearch : List Cond := .code yX12_canSearch cX12_canSearch 1 (some .boolean) :: ([Cond.fieldLink RX12 112 "ShortEnoughModel" "wideNumber" "I", Cond.fieldLink RX12 62 "ShortEnoughModel" "numbers" "[I", Cond.fieldLink RX12 128 "ShortEnoughModel" "hasHand" "Z", Cond.fieldLink RX12 103 "ShortEnoughModel" "freeMany" "I", Cond.methodLink RX12 358 yX12_laysFree, Cond.instanceMethod yX12_laysFree, Cond.selects RX12 yX12_laysFree yX12_laysFree, Cond.initialized RX12, Cond.code yX12_laysFree cX12_laysFree 2 none, Cond.fieldLink RX12 93 "ShortEnoughModel" "groupOf" "[I", Cond.fieldLink RX12 100 "ShortEnoughModel" "free" "[I", Cond.methodLink RX12 355 yX12_isFree, Cond.instanceMethod yX12_isFree, Cond.selects RX12 yX12_isFree yX12_isFree, Cond.code yX12_isFree cX12_isFree 3 (some .boolean), Cond.fieldLink RX12 87 "ShortEnoughModel" "fixedAs" "[I"] ++ wsX120)
noncomputable def wsX12_allChoices : List Cond := .code yX12_allChoices cX12_allChoices 3 (some .int) :: ([Cond.fieldLink RX12 103 "ShortEnoughModel" "freeMany" "I", Cond.fieldLink RX12 47 "ShortEnoughModel" "formats" "[I"] ++ wsX120)
noncomputable def wsX12_triesChoice : List Cond := .code yX12_triesChoice cX12_triesChoice 4 none :: ([Cond.fieldLink RX12 103 "ShortEnoughModel" "freeMany" "I", Cond.fieldLink RX12 100 "ShortEnoughModel" "free" "[I", Cond.fieldLink RX12 47 "ShortEnoughModel" "formats" "[I", Cond.methodLink RX12 440 yX12_triesHand, Cond.instanceMethod yX12_triesHand, Cond.selects RX12 yX12_triesHand yX12_triesHand, Cond.initialized RX12, Cond.code yX12_triesHand cX12_triesHand 2 none, Cond.fieldLink RX12 62 "ShortEnoughModel" "numbers" "[I", Cond.fieldLink RX12 132 "ShortEnoughModel" "tried" "[I", Cond.fieldLink RX12 125 "ShortEnoughModel" "hand" "[I", Cond.methodLink RX12 462 yX12_triesGroup, Cond.instanceMethod yX12_triesGroup, Cond.selects RX12 yX12_triesGroup yX12_triesGroup, Cond.code yX12_triesGroup cX12_triesGroup 4 none, Cond.fieldLink RX12 93 "ShortEnoughModel" "groupOf" "[I"] ++ wsX120)
noncomputable def wsX12_cheapestChoice_r1 : List Cond := [Cond.methodLink RX12 465 yX12_allChoices, Cond.instanceMethod yX12_allChoices, Cond.selects RX12 yX12_allChoices yX12_allChoices, Cond.initialized RX12, Cond.code yX12_allChoices cX12_allChoices 3 (some .int), Cond.fieldLink RX12 103 "ShortEnoughModel" "freeMany" "I", Cond.fieldLink RX12 47 "ShortEnoughModel" "formats" "[I", Cond.methodLink RX12 468 yX12_triesChoice, Cond.instanceMethod yX12_triesChoice, Cond.selects RX12 yX12_triesChoice yX12_triesChoice, Cond.code yX12_triesChoice cX12_triesChoice 4 none, Cond.fieldLink RX12 100 "ShortEnoughModel" "free" "[I", Cond.methodLink RX12 440 yX12_triesHand, Cond.instanceMethod yX12_triesHand, Cond.selects RX12 yX12_triesHand yX12_triesHand, Cond.code yX12_triesHand cX12_triesHand 2 none, Cond.fieldLink RX12 62 "ShortEnoughModel" "numbers" "[I", Cond.fieldLink RX12 132 "ShortEnoughModel" "tried" "[I", Cond.fieldLink RX12 125 "ShortEnoughModel" "hand" "[I", Cond.methodLink RX12 462 yX12_triesGroup, Cond.instanceMethod yX12_triesGroup, Cond.selects RX12 yX12_triesGroup yX12_triesGroup, Cond.code yX12_triesGroup cX12_triesGroup 4 none, Cond.fieldLink RX12 93 "ShortEnoughModel" "groupOf" "[I"]
noncomputable def wsX12_cheapestChoice_r2 : List Cond := [Cond.methodLink RX12 449 yX12_costTried, Cond.instanceMethod yX12_costTried, Cond.selects RX12 yX12_costTried yX12_costTried, Cond.code yX12_costTried cX12_costTried 3 (some .int), Cond.fieldLink RX12 84 "ShortEnoughModel" "castCost" "[I", Cond.fieldLink RX12 59 "ShortEnoughModel" "formatCost" "[I", Cond.methodLink RX12 437 yX12_castsTried, Cond.instanceMethod yX12_castsTried, Cond.selects RX12 yX12_castsTried yX12_castsTried, Cond.code yX12_castsTried cX12_castsTried 3 (some .int), Cond.fieldLink RX12 71 "ShortEnoughModel" "first" "[I", Cond.fieldLink RX12 74 "ShortEnoughModel" "second" "[I", Cond.methodLink RX12 433 yX12_isCast, Cond.instanceMethod yX12_isCast, Cond.selects RX12 yX12_isCast yX12_isCast, Cond.code yX12_isCast cX12_isCast 3 (some .boolean), Cond.methodLink RX12 443 yX12_passes, Cond.instanceMethod yX12_passes, Cond.selects RX12 yX12_passes yX12_passes, Cond.code yX12_passes cX12_passes 2 (some .boolean), Cond.fieldLink RX12 138 "ShortEnoughModel" "failsAt" "I", Cond.fieldLink RX12 141 "ShortEnoughModel" "failsWhy" "I", Cond.fieldLink RX12 135 "ShortEnoughModel" "error" "[J", Cond.fieldLink RX12 56 "ShortEnoughModel" "most" "[I"]
noncomputable def wsX12_cheapestChoice_r3 : List Cond := [Cond.fieldLink RX12 90 "ShortEnoughModel" "within" "[I", Cond.methodLink RX12 417 yX12_laysRange, Cond.instanceMethod yX12_laysRange, Cond.selects RX12 yX12_laysRange yX12_laysRange, Cond.code yX12_laysRange cX12_laysRange 18 none, Cond.fieldLink RX12 68 "ShortEnoughModel" "op" "[I", Cond.fieldLink RX12 112 "ShortEnoughModel" "wideNumber" "I", Cond.fieldLink RX12 115 "ShortEnoughModel" "wideBy" "J", Cond.fieldLink RX12 106 "ShortEnoughModel" "least" "[J", Cond.fieldLink RX12 77 "ShortEnoughModel" "firstV" "[J", Cond.fieldLink RX12 109 "ShortEnoughModel" "greatest" "[J", Cond.fieldLink RX12 81 "ShortEnoughModel" "secondV" "[J", Cond.methodLink RX12 399 yX12_lowOf, Cond.instanceMethod yX12_lowOf, Cond.selects RX12 yX12_lowOf yX12_lowOf, Cond.code yX12_lowOf cX12_lowOf 4 (some .long), Cond.methodLink RX12 403 yX12_highOf, Cond.instanceMethod yX12_highOf, Cond.selects RX12 yX12_highOf yX12_highOf, Cond.code yX12_highOf cX12_highOf 4 (some .long), Cond.methodLink RX12 406 yX12_two, Cond.static yX12_two, Cond.code yX12_two cX12_two 7 (some .long), Cond.methodLink RX12 392 yX12_roundedProduct]
noncomputable def wsX12_cheapestChoice_r4 : List Cond := [Cond.static yX12_roundedProduct, Cond.code yX12_roundedProduct cX12_roundedProduct 6 (some .long), Cond.constantLong RX12 383 (2), Cond.constantLong RX12 388 (1000), Cond.constantLong RX12 390 (2000), Cond.methodLink RX12 385 yX12_floor, Cond.static yX12_floor, Cond.code yX12_floor cX12_floor 6 (some .long), Cond.methodLink RX12 322 yX12_lesser, Cond.static yX12_lesser, Cond.code yX12_lesser cX12_lesser 4 (some .long), Cond.methodLink RX12 396 yX12_greater, Cond.static yX12_greater, Cond.code yX12_greater cX12_greater 4 (some .long), Cond.methodLink RX12 430 yX12_laysError, Cond.instanceMethod yX12_laysError, Cond.selects RX12 yX12_laysError yX12_laysError, Cond.code yX12_laysError cX12_laysError 12 none, Cond.fieldLink RX12 53 "ShortEnoughModel" "step" "[I", Cond.methodLink RX12 427 yX12_castError, Cond.instanceMethod yX12_castError, Cond.selects RX12 yX12_castError yX12_castError, Cond.code yX12_castError cX12_castError 6 (some .long), Cond.methodLink RX12 410 yX12_amount]
noncomputable def wsX12_cheapestChoice_r5 : List Cond := [Cond.static yX12_amount, Cond.code yX12_amount cX12_amount 2 (some .long), Cond.methodLink RX12 420 yX12_mostOf, Cond.instanceMethod yX12_mostOf, Cond.selects RX12 yX12_mostOf yX12_mostOf, Cond.code yX12_mostOf cX12_mostOf 2 (some .long)]
noncomputable def wsX12_cheapestChoice : List Cond := .code yX12_cheapestChoice cX12_cheapestChoice 6 (some .int) :: ((wsX12_cheapestChoice_r1 ++ (wsX12_cheapestChoice_r2 ++ (wsX12_cheapestChoice_r3 ++ (wsX12_cheapestChoice_r4 ++ wsX12_cheapestChoice_r5)))) ++ wsX120)
noncomputable def wsX12_cheapest_r1 : List Cond := [Cond.fieldLink RX12 132 "ShortEnoughModel" "tried" "[I", Cond.methodLink RX12 471 yX12_canSearch, Cond.instanceMethod yX12_canSearch, Cond.selects RX12 yX12_canSearch yX12_canSearch, Cond.initialized RX12, Cond.code yX12_canSearch cX12_canSearch 1 (some .boolean), Cond.fieldLink RX12 112 "ShortEnoughModel" "wideNumber" "I", Cond.fieldLink RX12 62 "ShortEnoughModel" "numbers" "[I", Cond.fieldLink RX12 128 "ShortEnoughModel" "hasHand" "Z", Cond.fieldLink RX12 103 "ShortEnoughModel" "freeMany" "I", Cond.methodLink RX12 358 yX12_laysFree, Cond.instanceMethod yX12_laysFree, Cond.selects RX12 yX12_laysFree yX12_laysFree, Cond.code yX12_laysFree cX12_laysFree 2 none, Cond.fieldLink RX12 93 "ShortEnoughModel" "groupOf" "[I", Cond.fieldLink RX12 100 "ShortEnoughModel" "free" "[I", Cond.methodLink RX12 355 yX12_isFree, Cond.instanceMethod yX12_isFree, Cond.selects RX12 yX12_isFree yX12_isFree, Cond.code yX12_isFree cX12_isFree 3 (some .boolean), Cond.fieldLink RX12 87 "ShortEnoughModel" "fixedAs" "[I", Cond.methodLink RX12 373 yX12_isNumber, Cond.instanceMethod yX12_isNumber, Cond.selects RX12 yX12_isNumber yX12_isNumber]
noncomputable def wsX12_cheapest_r2 : List Cond := [Cond.code yX12_isNumber cX12_isNumber 2 (some .boolean), Cond.methodLink RX12 263 yX12_isIn, Cond.static yX12_isIn, Cond.code yX12_isIn cX12_isIn 6 (some .boolean), Cond.methodLink RX12 474 yX12_cheapestChoice, Cond.instanceMethod yX12_cheapestChoice, Cond.selects RX12 yX12_cheapestChoice yX12_cheapestChoice, Cond.code yX12_cheapestChoice cX12_cheapestChoice 6 (some .int), Cond.methodLink RX12 465 yX12_allChoices, Cond.instanceMethod yX12_allChoices, Cond.selects RX12 yX12_allChoices yX12_allChoices, Cond.code yX12_allChoices cX12_allChoices 3 (some .int), Cond.fieldLink RX12 47 "ShortEnoughModel" "formats" "[I", Cond.methodLink RX12 468 yX12_triesChoice, Cond.instanceMethod yX12_triesChoice, Cond.selects RX12 yX12_triesChoice yX12_triesChoice, Cond.code yX12_triesChoice cX12_triesChoice 4 none, Cond.methodLink RX12 440 yX12_triesHand, Cond.instanceMethod yX12_triesHand, Cond.selects RX12 yX12_triesHand yX12_triesHand, Cond.code yX12_triesHand cX12_triesHand 2 none, Cond.fieldLink RX12 125 "ShortEnoughModel" "hand" "[I", Cond.methodLink RX12 462 yX12_triesGroup, Cond.instanceMethod yX12_triesGroup]
noncomputable def wsX12_cheapest_r3 : List Cond := [Cond.selects RX12 yX12_triesGroup yX12_triesGroup, Cond.code yX12_triesGroup cX12_triesGroup 4 none, Cond.methodLink RX12 449 yX12_costTried, Cond.instanceMethod yX12_costTried, Cond.selects RX12 yX12_costTried yX12_costTried, Cond.code yX12_costTried cX12_costTried 3 (some .int), Cond.fieldLink RX12 84 "ShortEnoughModel" "castCost" "[I", Cond.fieldLink RX12 59 "ShortEnoughModel" "formatCost" "[I", Cond.methodLink RX12 437 yX12_castsTried, Cond.instanceMethod yX12_castsTried, Cond.selects RX12 yX12_castsTried yX12_castsTried, Cond.code yX12_castsTried cX12_castsTried 3 (some .int), Cond.fieldLink RX12 71 "ShortEnoughModel" "first" "[I", Cond.fieldLink RX12 74 "ShortEnoughModel" "second" "[I", Cond.methodLink RX12 433 yX12_isCast, Cond.instanceMethod yX12_isCast, Cond.selects RX12 yX12_isCast yX12_isCast, Cond.code yX12_isCast cX12_isCast 3 (some .boolean), Cond.methodLink RX12 443 yX12_passes, Cond.instanceMethod yX12_passes, Cond.selects RX12 yX12_passes yX12_passes, Cond.code yX12_passes cX12_passes 2 (some .boolean), Cond.fieldLink RX12 138 "ShortEnoughModel" "failsAt" "I", Cond.fieldLink RX12 141 "ShortEnoughModel" "failsWhy" "I"]
noncomputable def wsX12_cheapest_r4 : List Cond := [Cond.fieldLink RX12 135 "ShortEnoughModel" "error" "[J", Cond.fieldLink RX12 56 "ShortEnoughModel" "most" "[I", Cond.fieldLink RX12 90 "ShortEnoughModel" "within" "[I", Cond.methodLink RX12 417 yX12_laysRange, Cond.instanceMethod yX12_laysRange, Cond.selects RX12 yX12_laysRange yX12_laysRange, Cond.code yX12_laysRange cX12_laysRange 18 none, Cond.fieldLink RX12 68 "ShortEnoughModel" "op" "[I", Cond.fieldLink RX12 115 "ShortEnoughModel" "wideBy" "J", Cond.fieldLink RX12 106 "ShortEnoughModel" "least" "[J", Cond.fieldLink RX12 77 "ShortEnoughModel" "firstV" "[J", Cond.fieldLink RX12 109 "ShortEnoughModel" "greatest" "[J", Cond.fieldLink RX12 81 "ShortEnoughModel" "secondV" "[J", Cond.methodLink RX12 399 yX12_lowOf, Cond.instanceMethod yX12_lowOf, Cond.selects RX12 yX12_lowOf yX12_lowOf, Cond.code yX12_lowOf cX12_lowOf 4 (some .long), Cond.methodLink RX12 403 yX12_highOf, Cond.instanceMethod yX12_highOf, Cond.selects RX12 yX12_highOf yX12_highOf, Cond.code yX12_highOf cX12_highOf 4 (some .long), Cond.methodLink RX12 406 yX12_two, Cond.static yX12_two, Cond.code yX12_two cX12_two 7 (some .long)]
noncomputable def wsX12_cheapest_r5 : List Cond := [Cond.methodLink RX12 392 yX12_roundedProduct, Cond.static yX12_roundedProduct, Cond.code yX12_roundedProduct cX12_roundedProduct 6 (some .long), Cond.constantLong RX12 383 (2), Cond.constantLong RX12 388 (1000), Cond.constantLong RX12 390 (2000), Cond.methodLink RX12 385 yX12_floor, Cond.static yX12_floor, Cond.code yX12_floor cX12_floor 6 (some .long), Cond.methodLink RX12 322 yX12_lesser, Cond.static yX12_lesser, Cond.code yX12_lesser cX12_lesser 4 (some .long), Cond.methodLink RX12 396 yX12_greater, Cond.static yX12_greater, Cond.code yX12_greater cX12_greater 4 (some .long), Cond.methodLink RX12 430 yX12_laysError, Cond.instanceMethod yX12_laysError, Cond.selects RX12 yX12_laysError yX12_laysError, Cond.code yX12_laysError cX12_laysError 12 none, Cond.fieldLink RX12 53 "ShortEnoughModel" "step" "[I", Cond.methodLink RX12 427 yX12_castError, Cond.instanceMethod yX12_castError, Cond.selects RX12 yX12_castError yX12_castError, Cond.code yX12_castError cX12_castError 6 (some .long)]
noncomputable def wsX12_cheapest_r6 : List Cond := [Cond.methodLink RX12 410 yX12_amount, Cond.static yX12_amount, Cond.code yX12_amount cX12_amount 2 (some .long), Cond.methodLink RX12 420 yX12_mostOf, Cond.instanceMethod yX12_mostOf, Cond.selects RX12 yX12_mostOf yX12_mostOf, Cond.code yX12_mostOf cX12_mostOf 2 (some .long)]
noncomputable def wsX12_cheapest : List Cond := .code yX12_cheapest cX12_cheapest 3 (some .int) :: ((wsX12_cheapest_r1 ++ (wsX12_cheapest_r2 ++ (wsX12_cheapest_r3 ++ (wsX12_cheapest_r4 ++ (wsX12_cheapest_r5 ++ wsX12_cheapest_r6))))) ++ wsX120)
noncomputable def wsX12_passing_r1 : List Cond := [Cond.fieldLink RX12 62 "ShortEnoughModel" "numbers" "[I", Cond.fieldLink RX12 103 "ShortEnoughModel" "freeMany" "I", Cond.fieldLink RX12 128 "ShortEnoughModel" "hasHand" "Z", Cond.fieldLink RX12 112 "ShortEnoughModel" "wideNumber" "I", Cond.methodLink RX12 358 yX12_laysFree, Cond.instanceMethod yX12_laysFree, Cond.selects RX12 yX12_laysFree yX12_laysFree, Cond.initialized RX12, Cond.code yX12_laysFree cX12_laysFree 2 none, Cond.fieldLink RX12 93 "ShortEnoughModel" "groupOf" "[I", Cond.fieldLink RX12 100 "ShortEnoughModel" "free" "[I", Cond.methodLink RX12 355 yX12_isFree, Cond.instanceMethod yX12_isFree, Cond.selects RX12 yX12_isFree yX12_isFree, Cond.code yX12_isFree cX12_isFree 3 (some .boolean), Cond.fieldLink RX12 87 "ShortEnoughModel" "fixedAs" "[I", Cond.methodLink RX12 465 yX12_allChoices, Cond.instanceMethod yX12_allChoices, Cond.selects RX12 yX12_allChoices yX12_allChoices, Cond.code yX12_allChoices cX12_allChoices 3 (some .int), Cond.fieldLink RX12 47 "ShortEnoughModel" "formats" "[I", Cond.methodLink RX12 468 yX12_triesChoice, Cond.instanceMethod yX12_triesChoice, Cond.selects RX12 yX12_triesChoice yX12_triesChoice]
noncomputable def wsX12_passing_r2 : List Cond := [Cond.code yX12_triesChoice cX12_triesChoice 4 none, Cond.methodLink RX12 440 yX12_triesHand, Cond.instanceMethod yX12_triesHand, Cond.selects RX12 yX12_triesHand yX12_triesHand, Cond.code yX12_triesHand cX12_triesHand 2 none, Cond.fieldLink RX12 132 "ShortEnoughModel" "tried" "[I", Cond.fieldLink RX12 125 "ShortEnoughModel" "hand" "[I", Cond.methodLink RX12 462 yX12_triesGroup, Cond.instanceMethod yX12_triesGroup, Cond.selects RX12 yX12_triesGroup yX12_triesGroup, Cond.code yX12_triesGroup cX12_triesGroup 4 none, Cond.methodLink RX12 443 yX12_passes, Cond.instanceMethod yX12_passes, Cond.selects RX12 yX12_passes yX12_passes, Cond.code yX12_passes cX12_passes 2 (some .boolean), Cond.fieldLink RX12 138 "ShortEnoughModel" "failsAt" "I", Cond.fieldLink RX12 141 "ShortEnoughModel" "failsWhy" "I", Cond.fieldLink RX12 135 "ShortEnoughModel" "error" "[J", Cond.fieldLink RX12 56 "ShortEnoughModel" "most" "[I", Cond.fieldLink RX12 90 "ShortEnoughModel" "within" "[I", Cond.methodLink RX12 417 yX12_laysRange, Cond.instanceMethod yX12_laysRange, Cond.selects RX12 yX12_laysRange yX12_laysRange, Cond.code yX12_laysRange cX12_laysRange 18 none]
noncomputable def wsX12_passing_r3 : List Cond := [Cond.fieldLink RX12 68 "ShortEnoughModel" "op" "[I", Cond.fieldLink RX12 115 "ShortEnoughModel" "wideBy" "J", Cond.fieldLink RX12 106 "ShortEnoughModel" "least" "[J", Cond.fieldLink RX12 77 "ShortEnoughModel" "firstV" "[J", Cond.fieldLink RX12 109 "ShortEnoughModel" "greatest" "[J", Cond.fieldLink RX12 81 "ShortEnoughModel" "secondV" "[J", Cond.methodLink RX12 399 yX12_lowOf, Cond.instanceMethod yX12_lowOf, Cond.selects RX12 yX12_lowOf yX12_lowOf, Cond.code yX12_lowOf cX12_lowOf 4 (some .long), Cond.fieldLink RX12 74 "ShortEnoughModel" "second" "[I", Cond.fieldLink RX12 71 "ShortEnoughModel" "first" "[I", Cond.methodLink RX12 403 yX12_highOf, Cond.instanceMethod yX12_highOf, Cond.selects RX12 yX12_highOf yX12_highOf, Cond.code yX12_highOf cX12_highOf 4 (some .long), Cond.methodLink RX12 406 yX12_two, Cond.static yX12_two, Cond.code yX12_two cX12_two 7 (some .long), Cond.methodLink RX12 392 yX12_roundedProduct, Cond.static yX12_roundedProduct, Cond.code yX12_roundedProduct cX12_roundedProduct 6 (some .long), Cond.constantLong RX12 383 (2), Cond.constantLong RX12 388 (1000)]
noncomputable def wsX12_passing_r4 : List Cond := [Cond.constantLong RX12 390 (2000), Cond.methodLink RX12 385 yX12_floor, Cond.static yX12_floor, Cond.code yX12_floor cX12_floor 6 (some .long), Cond.methodLink RX12 322 yX12_lesser, Cond.static yX12_lesser, Cond.code yX12_lesser cX12_lesser 4 (some .long), Cond.methodLink RX12 396 yX12_greater, Cond.static yX12_greater, Cond.code yX12_greater cX12_greater 4 (some .long), Cond.methodLink RX12 430 yX12_laysError, Cond.instanceMethod yX12_laysError, Cond.selects RX12 yX12_laysError yX12_laysError, Cond.code yX12_laysError cX12_laysError 12 none, Cond.fieldLink RX12 53 "ShortEnoughModel" "step" "[I", Cond.methodLink RX12 427 yX12_castError, Cond.instanceMethod yX12_castError, Cond.selects RX12 yX12_castError yX12_castError, Cond.code yX12_castError cX12_castError 6 (some .long), Cond.methodLink RX12 410 yX12_amount, Cond.static yX12_amount, Cond.code yX12_amount cX12_amount 2 (some .long), Cond.methodLink RX12 420 yX12_mostOf, Cond.instanceMethod yX12_mostOf]
noncomputable def wsX12_passing_r5 : List Cond := [Cond.selects RX12 yX12_mostOf yX12_mostOf, Cond.code yX12_mostOf cX12_mostOf 2 (some .long)]
noncomputable def wsX12_passing : List Cond := .code yX12_passing cX12_passing 4 (some .int) :: ((wsX12_passing_r1 ++ (wsX12_passing_r2 ++ (wsX12_passing_r3 ++ (wsX12_passing_r4 ++ wsX12_passing_r5)))) ++ wsX120)
noncomputable def wsX12_keepsTried : List Cond := .code yX12_keepsTried cX12_keepsTried 2 none :: ([Cond.fieldLink RX12 62 "ShortEnoughModel" "numbers" "[I", Cond.fieldLink RX12 144 "ShortEnoughModel" "soFar" "[I", Cond.fieldLink RX12 132 "ShortEnoughModel" "tried" "[I", Cond.fieldLink RX12 147 "ShortEnoughModel" "soFarCost" "I", Cond.methodLink RX12 449 yX12_costTried, Cond.instanceMethod yX12_costTried, Cond.selects RX12 yX12_costTried yX12_costTried, Cond.initialized RX12, Cond.code yX12_costTried cX12_costTried 3 (some .int), Cond.fieldLink RX12 84 "ShortEnoughModel" "castCost" "[I", Cond.fieldLink RX12 59 "ShortEnoughModel" "formatCost" "[I", Cond.methodLink RX12 437 yX12_castsTried, Cond.instanceMethod yX12_castsTried, Cond.selects RX12 yX12_castsTried yX12_castsTried, Cond.code yX12_castsTried cX12_castsTried 3 (some .int), Cond.fieldLink RX12 71 "ShortEnoughModel" "first" "[I", Cond.fieldLink RX12 74 "ShortEnoughModel" "second" "[I", Cond.methodLink RX12 433 yX12_isCast, Cond.instanceMethod yX12_isCast, Cond.selects RX12 yX12_isCast yX12_isCast, Cond.code yX12_isCast cX12_isCast 3 (some .boolean)] ++ wsX120)
noncomputable def wsX12_isBetter_r1 : List Cond := [Cond.fieldLink RX12 62 "ShortEnoughModel" "numbers" "[I", Cond.fieldLink RX12 132 "ShortEnoughModel" "tried" "[I", Cond.fieldLink RX12 144 "ShortEnoughModel" "soFar" "[I", Cond.fieldLink RX12 100 "ShortEnoughModel" "free" "[I", Cond.fieldLink RX12 156 "ShortEnoughModel" "row" "[I", Cond.fieldLink RX12 150 "ShortEnoughModel" "tries" "I", Cond.fieldLink RX12 147 "ShortEnoughModel" "soFarCost" "I", Cond.fieldLink RX12 153 "ShortEnoughModel" "hasChanged" "[Z", Cond.methodLink RX12 462 yX12_triesGroup, Cond.instanceMethod yX12_triesGroup, Cond.selects RX12 yX12_triesGroup yX12_triesGroup, Cond.initialized RX12, Cond.code yX12_triesGroup cX12_triesGroup 4 none, Cond.fieldLink RX12 93 "ShortEnoughModel" "groupOf" "[I", Cond.methodLink RX12 443 yX12_passes, Cond.instanceMethod yX12_passes, Cond.selects RX12 yX12_passes yX12_passes, Cond.code yX12_passes cX12_passes 2 (some .boolean), Cond.fieldLink RX12 138 "ShortEnoughModel" "failsAt" "I", Cond.fieldLink RX12 141 "ShortEnoughModel" "failsWhy" "I", Cond.fieldLink RX12 135 "ShortEnoughModel" "error" "[J", Cond.fieldLink RX12 56 "ShortEnoughModel" "most" "[I", Cond.fieldLink RX12 90 "ShortEnoughModel" "within" "[I", Cond.methodLink RX12 417 yX12_laysRange]
noncomputable def wsX12_isBetter_r2 : List Cond := [Cond.instanceMethod yX12_laysRange, Cond.selects RX12 yX12_laysRange yX12_laysRange, Cond.code yX12_laysRange cX12_laysRange 18 none, Cond.fieldLink RX12 68 "ShortEnoughModel" "op" "[I", Cond.fieldLink RX12 112 "ShortEnoughModel" "wideNumber" "I", Cond.fieldLink RX12 115 "ShortEnoughModel" "wideBy" "J", Cond.fieldLink RX12 106 "ShortEnoughModel" "least" "[J", Cond.fieldLink RX12 77 "ShortEnoughModel" "firstV" "[J", Cond.fieldLink RX12 109 "ShortEnoughModel" "greatest" "[J", Cond.fieldLink RX12 81 "ShortEnoughModel" "secondV" "[J", Cond.methodLink RX12 399 yX12_lowOf, Cond.instanceMethod yX12_lowOf, Cond.selects RX12 yX12_lowOf yX12_lowOf, Cond.code yX12_lowOf cX12_lowOf 4 (some .long), Cond.fieldLink RX12 74 "ShortEnoughModel" "second" "[I", Cond.fieldLink RX12 71 "ShortEnoughModel" "first" "[I", Cond.methodLink RX12 403 yX12_highOf, Cond.instanceMethod yX12_highOf, Cond.selects RX12 yX12_highOf yX12_highOf, Cond.code yX12_highOf cX12_highOf 4 (some .long), Cond.methodLink RX12 406 yX12_two, Cond.static yX12_two, Cond.code yX12_two cX12_two 7 (some .long), Cond.methodLink RX12 392 yX12_roundedProduct]
noncomputable def wsX12_isBetter_r3 : List Cond := [Cond.static yX12_roundedProduct, Cond.code yX12_roundedProduct cX12_roundedProduct 6 (some .long), Cond.constantLong RX12 383 (2), Cond.constantLong RX12 388 (1000), Cond.constantLong RX12 390 (2000), Cond.methodLink RX12 385 yX12_floor, Cond.static yX12_floor, Cond.code yX12_floor cX12_floor 6 (some .long), Cond.methodLink RX12 322 yX12_lesser, Cond.static yX12_lesser, Cond.code yX12_lesser cX12_lesser 4 (some .long), Cond.methodLink RX12 396 yX12_greater, Cond.static yX12_greater, Cond.code yX12_greater cX12_greater 4 (some .long), Cond.methodLink RX12 430 yX12_laysError, Cond.instanceMethod yX12_laysError, Cond.selects RX12 yX12_laysError yX12_laysError, Cond.code yX12_laysError cX12_laysError 12 none, Cond.fieldLink RX12 53 "ShortEnoughModel" "step" "[I", Cond.methodLink RX12 427 yX12_castError, Cond.instanceMethod yX12_castError, Cond.selects RX12 yX12_castError yX12_castError, Cond.code yX12_castError cX12_castError 6 (some .long), Cond.methodLink RX12 410 yX12_amount]
noncomputable def wsX12_isBetter_r4 : List Cond := [Cond.static yX12_amount, Cond.code yX12_amount cX12_amount 2 (some .long), Cond.methodLink RX12 420 yX12_mostOf, Cond.instanceMethod yX12_mostOf, Cond.selects RX12 yX12_mostOf yX12_mostOf, Cond.code yX12_mostOf cX12_mostOf 2 (some .long), Cond.methodLink RX12 449 yX12_costTried, Cond.instanceMethod yX12_costTried, Cond.selects RX12 yX12_costTried yX12_costTried, Cond.code yX12_costTried cX12_costTried 3 (some .int), Cond.fieldLink RX12 84 "ShortEnoughModel" "castCost" "[I", Cond.fieldLink RX12 59 "ShortEnoughModel" "formatCost" "[I", Cond.methodLink RX12 437 yX12_castsTried, Cond.instanceMethod yX12_castsTried, Cond.selects RX12 yX12_castsTried yX12_castsTried, Cond.code yX12_castsTried cX12_castsTried 3 (some .int), Cond.methodLink RX12 433 yX12_isCast, Cond.instanceMethod yX12_isCast, Cond.selects RX12 yX12_isCast yX12_isCast, Cond.code yX12_isCast cX12_isCast 3 (some .boolean), Cond.methodLink RX12 477 yX12_keepsTried, Cond.instanceMethod yX12_keepsTried, Cond.selects RX12 yX12_keepsTried yX12_keepsTried, Cond.code yX12_keepsTried cX12_keepsTried 2 none]
noncomputable def wsX12_isBetter : List Cond := .code yX12_isBetter cX12_isBetter 5 (some .boolean) :: ((wsX12_isBetter_r1 ++ (wsX12_isBetter_r2 ++ (wsX12_isBetter_r3 ++ wsX12_isBetter_r4))) ++ wsX120)
noncomputable def wsX12_halvesBy_r1 : List Cond := [Cond.fieldLink RX12 103 "ShortEnoughModel" "freeMany" "I", Cond.fieldLink RX12 153 "ShortEnoughModel" "hasChanged" "[Z", Cond.fieldLink RX12 156 "ShortEnoughModel" "row" "[I", Cond.fieldLink RX12 159 "ShortEnoughModel" "partFrom" "[I", Cond.fieldLink RX12 162 "ShortEnoughModel" "partMany" "[I", Cond.methodLink RX12 480 yX12_isBetter, Cond.instanceMethod yX12_isBetter, Cond.selects RX12 yX12_isBetter yX12_isBetter, Cond.initialized RX12, Cond.code yX12_isBetter cX12_isBetter 5 (some .boolean), Cond.fieldLink RX12 62 "ShortEnoughModel" "numbers" "[I", Cond.fieldLink RX12 132 "ShortEnoughModel" "tried" "[I", Cond.fieldLink RX12 144 "ShortEnoughModel" "soFar" "[I", Cond.fieldLink RX12 100 "ShortEnoughModel" "free" "[I", Cond.fieldLink RX12 150 "ShortEnoughModel" "tries" "I", Cond.fieldLink RX12 147 "ShortEnoughModel" "soFarCost" "I", Cond.methodLink RX12 462 yX12_triesGroup, Cond.instanceMethod yX12_triesGroup, Cond.selects RX12 yX12_triesGroup yX12_triesGroup, Cond.code yX12_triesGroup cX12_triesGroup 4 none, Cond.fieldLink RX12 93 "ShortEnoughModel" "groupOf" "[I", Cond.methodLink RX12 443 yX12_passes, Cond.instanceMethod yX12_passes, Cond.selects RX12 yX12_passes yX12_passes]
noncomputable def wsX12_halvesBy_r2 : List Cond := [Cond.code yX12_passes cX12_passes 2 (some .boolean), Cond.fieldLink RX12 138 "ShortEnoughModel" "failsAt" "I", Cond.fieldLink RX12 141 "ShortEnoughModel" "failsWhy" "I", Cond.fieldLink RX12 135 "ShortEnoughModel" "error" "[J", Cond.fieldLink RX12 56 "ShortEnoughModel" "most" "[I", Cond.fieldLink RX12 90 "ShortEnoughModel" "within" "[I", Cond.methodLink RX12 417 yX12_laysRange, Cond.instanceMethod yX12_laysRange, Cond.selects RX12 yX12_laysRange yX12_laysRange, Cond.code yX12_laysRange cX12_laysRange 18 none, Cond.fieldLink RX12 68 "ShortEnoughModel" "op" "[I", Cond.fieldLink RX12 112 "ShortEnoughModel" "wideNumber" "I", Cond.fieldLink RX12 115 "ShortEnoughModel" "wideBy" "J", Cond.fieldLink RX12 106 "ShortEnoughModel" "least" "[J", Cond.fieldLink RX12 77 "ShortEnoughModel" "firstV" "[J", Cond.fieldLink RX12 109 "ShortEnoughModel" "greatest" "[J", Cond.fieldLink RX12 81 "ShortEnoughModel" "secondV" "[J", Cond.methodLink RX12 399 yX12_lowOf, Cond.instanceMethod yX12_lowOf, Cond.selects RX12 yX12_lowOf yX12_lowOf, Cond.code yX12_lowOf cX12_lowOf 4 (some .long), Cond.fieldLink RX12 74 "ShortEnoughModel" "second" "[I", Cond.fieldLink RX12 71 "ShortEnoughModel" "first" "[I", Cond.methodLink RX12 403 yX12_highOf]
noncomputable def wsX12_halvesBy_r3 : List Cond := [Cond.instanceMethod yX12_highOf, Cond.selects RX12 yX12_highOf yX12_highOf, Cond.code yX12_highOf cX12_highOf 4 (some .long), Cond.methodLink RX12 406 yX12_two, Cond.static yX12_two, Cond.code yX12_two cX12_two 7 (some .long), Cond.methodLink RX12 392 yX12_roundedProduct, Cond.static yX12_roundedProduct, Cond.code yX12_roundedProduct cX12_roundedProduct 6 (some .long), Cond.constantLong RX12 383 (2), Cond.constantLong RX12 388 (1000), Cond.constantLong RX12 390 (2000), Cond.methodLink RX12 385 yX12_floor, Cond.static yX12_floor, Cond.code yX12_floor cX12_floor 6 (some .long), Cond.methodLink RX12 322 yX12_lesser, Cond.static yX12_lesser, Cond.code yX12_lesser cX12_lesser 4 (some .long), Cond.methodLink RX12 396 yX12_greater, Cond.static yX12_greater, Cond.code yX12_greater cX12_greater 4 (some .long), Cond.methodLink RX12 430 yX12_laysError, Cond.instanceMethod yX12_laysError, Cond.selects RX12 yX12_laysError yX12_laysError]
noncomputable def wsX12_halvesBy_r4 : List Cond := [Cond.code yX12_laysError cX12_laysError 12 none, Cond.fieldLink RX12 53 "ShortEnoughModel" "step" "[I", Cond.methodLink RX12 427 yX12_castError, Cond.instanceMethod yX12_castError, Cond.selects RX12 yX12_castError yX12_castError, Cond.code yX12_castError cX12_castError 6 (some .long), Cond.methodLink RX12 410 yX12_amount, Cond.static yX12_amount, Cond.code yX12_amount cX12_amount 2 (some .long), Cond.methodLink RX12 420 yX12_mostOf, Cond.instanceMethod yX12_mostOf, Cond.selects RX12 yX12_mostOf yX12_mostOf, Cond.code yX12_mostOf cX12_mostOf 2 (some .long), Cond.methodLink RX12 449 yX12_costTried, Cond.instanceMethod yX12_costTried, Cond.selects RX12 yX12_costTried yX12_costTried, Cond.code yX12_costTried cX12_costTried 3 (some .int), Cond.fieldLink RX12 84 "ShortEnoughModel" "castCost" "[I", Cond.fieldLink RX12 59 "ShortEnoughModel" "formatCost" "[I", Cond.methodLink RX12 437 yX12_castsTried, Cond.instanceMethod yX12_castsTried, Cond.selects RX12 yX12_castsTried yX12_castsTried, Cond.code yX12_castsTried cX12_castsTried 3 (some .int), Cond.methodLink RX12 433 yX12_isCast]
noncomputable def wsX12_halvesBy_r5 : List Cond := [Cond.instanceMethod yX12_isCast, Cond.selects RX12 yX12_isCast yX12_isCast, Cond.code yX12_isCast cX12_isCast 3 (some .boolean), Cond.methodLink RX12 477 yX12_keepsTried, Cond.instanceMethod yX12_keepsTried, Cond.selects RX12 yX12_keepsTried yX12_keepsTried, Cond.code yX12_keepsTried cX12_keepsTried 2 none]
noncomputable def wsX12_halvesBy : List Cond := .code yX12_halvesBy cX12_halvesBy 7 none :: ((wsX12_halvesBy_r1 ++ (wsX12_halvesBy_r2 ++ (wsX12_halvesBy_r3 ++ (wsX12_halvesBy_r4 ++ wsX12_halvesBy_r5)))) ++ wsX120)
noncomputable def wsX12_halve_r1 : List Cond := [Cond.fieldLink RX12 112 "ShortEnoughModel" "wideNumber" "I", Cond.fieldLink RX12 103 "ShortEnoughModel" "freeMany" "I", Cond.fieldLink RX12 100 "ShortEnoughModel" "free" "[I", Cond.fieldLink RX12 153 "ShortEnoughModel" "hasChanged" "[Z", Cond.fieldLink RX12 150 "ShortEnoughModel" "tries" "I", Cond.fieldLink RX12 47 "ShortEnoughModel" "formats" "[I", Cond.methodLink RX12 358 yX12_laysFree, Cond.instanceMethod yX12_laysFree, Cond.selects RX12 yX12_laysFree yX12_laysFree, Cond.initialized RX12, Cond.code yX12_laysFree cX12_laysFree 2 none, Cond.fieldLink RX12 62 "ShortEnoughModel" "numbers" "[I", Cond.fieldLink RX12 93 "ShortEnoughModel" "groupOf" "[I", Cond.methodLink RX12 355 yX12_isFree, Cond.instanceMethod yX12_isFree, Cond.selects RX12 yX12_isFree yX12_isFree, Cond.code yX12_isFree cX12_isFree 3 (some .boolean), Cond.fieldLink RX12 87 "ShortEnoughModel" "fixedAs" "[I", Cond.methodLink RX12 446 yX12_isThere, Cond.instanceMethod yX12_isThere, Cond.selects RX12 yX12_isThere yX12_isThere, Cond.code yX12_isThere cX12_isThere 1 (some .boolean), Cond.fieldLink RX12 128 "ShortEnoughModel" "hasHand" "Z", Cond.methodLink RX12 459 yX12_finest]
noncomputable def wsX12_halve_r2 : List Cond := [Cond.instanceMethod yX12_finest, Cond.selects RX12 yX12_finest yX12_finest, Cond.code yX12_finest cX12_finest 3 (some .int), Cond.fieldLink RX12 53 "ShortEnoughModel" "step" "[I", Cond.methodLink RX12 440 yX12_triesHand, Cond.instanceMethod yX12_triesHand, Cond.selects RX12 yX12_triesHand yX12_triesHand, Cond.code yX12_triesHand cX12_triesHand 2 none, Cond.fieldLink RX12 132 "ShortEnoughModel" "tried" "[I", Cond.fieldLink RX12 125 "ShortEnoughModel" "hand" "[I", Cond.methodLink RX12 462 yX12_triesGroup, Cond.instanceMethod yX12_triesGroup, Cond.selects RX12 yX12_triesGroup yX12_triesGroup, Cond.code yX12_triesGroup cX12_triesGroup 4 none, Cond.methodLink RX12 443 yX12_passes, Cond.instanceMethod yX12_passes, Cond.selects RX12 yX12_passes yX12_passes, Cond.code yX12_passes cX12_passes 2 (some .boolean), Cond.fieldLink RX12 138 "ShortEnoughModel" "failsAt" "I", Cond.fieldLink RX12 141 "ShortEnoughModel" "failsWhy" "I", Cond.fieldLink RX12 135 "ShortEnoughModel" "error" "[J", Cond.fieldLink RX12 56 "ShortEnoughModel" "most" "[I", Cond.fieldLink RX12 90 "ShortEnoughModel" "within" "[I", Cond.methodLink RX12 417 yX12_laysRange]
noncomputable def wsX12_halve_r3 : List Cond := [Cond.instanceMethod yX12_laysRange, Cond.selects RX12 yX12_laysRange yX12_laysRange, Cond.code yX12_laysRange cX12_laysRange 18 none, Cond.fieldLink RX12 68 "ShortEnoughModel" "op" "[I", Cond.fieldLink RX12 115 "ShortEnoughModel" "wideBy" "J", Cond.fieldLink RX12 106 "ShortEnoughModel" "least" "[J", Cond.fieldLink RX12 77 "ShortEnoughModel" "firstV" "[J", Cond.fieldLink RX12 109 "ShortEnoughModel" "greatest" "[J", Cond.fieldLink RX12 81 "ShortEnoughModel" "secondV" "[J", Cond.methodLink RX12 399 yX12_lowOf, Cond.instanceMethod yX12_lowOf, Cond.selects RX12 yX12_lowOf yX12_lowOf, Cond.code yX12_lowOf cX12_lowOf 4 (some .long), Cond.fieldLink RX12 74 "ShortEnoughModel" "second" "[I", Cond.fieldLink RX12 71 "ShortEnoughModel" "first" "[I", Cond.methodLink RX12 403 yX12_highOf, Cond.instanceMethod yX12_highOf, Cond.selects RX12 yX12_highOf yX12_highOf, Cond.code yX12_highOf cX12_highOf 4 (some .long), Cond.methodLink RX12 406 yX12_two, Cond.static yX12_two, Cond.code yX12_two cX12_two 7 (some .long), Cond.methodLink RX12 392 yX12_roundedProduct, Cond.static yX12_roundedProduct]
noncomputable def wsX12_halve_r4 : List Cond := [Cond.code yX12_roundedProduct cX12_roundedProduct 6 (some .long), Cond.constantLong RX12 383 (2), Cond.constantLong RX12 388 (1000), Cond.constantLong RX12 390 (2000), Cond.methodLink RX12 385 yX12_floor, Cond.static yX12_floor, Cond.code yX12_floor cX12_floor 6 (some .long), Cond.methodLink RX12 322 yX12_lesser, Cond.static yX12_lesser, Cond.code yX12_lesser cX12_lesser 4 (some .long), Cond.methodLink RX12 396 yX12_greater, Cond.static yX12_greater, Cond.code yX12_greater cX12_greater 4 (some .long), Cond.methodLink RX12 430 yX12_laysError, Cond.instanceMethod yX12_laysError, Cond.selects RX12 yX12_laysError yX12_laysError, Cond.code yX12_laysError cX12_laysError 12 none, Cond.methodLink RX12 427 yX12_castError, Cond.instanceMethod yX12_castError, Cond.selects RX12 yX12_castError yX12_castError, Cond.code yX12_castError cX12_castError 6 (some .long), Cond.methodLink RX12 410 yX12_amount, Cond.static yX12_amount, Cond.code yX12_amount cX12_amount 2 (some .long)]
noncomputable def wsX12_halve_r5 : List Cond := [Cond.methodLink RX12 420 yX12_mostOf, Cond.instanceMethod yX12_mostOf, Cond.selects RX12 yX12_mostOf yX12_mostOf, Cond.code yX12_mostOf cX12_mostOf 2 (some .long), Cond.methodLink RX12 477 yX12_keepsTried, Cond.instanceMethod yX12_keepsTried, Cond.selects RX12 yX12_keepsTried yX12_keepsTried, Cond.code yX12_keepsTried cX12_keepsTried 2 none, Cond.fieldLink RX12 144 "ShortEnoughModel" "soFar" "[I", Cond.fieldLink RX12 147 "ShortEnoughModel" "soFarCost" "I", Cond.methodLink RX12 449 yX12_costTried, Cond.instanceMethod yX12_costTried, Cond.selects RX12 yX12_costTried yX12_costTried, Cond.code yX12_costTried cX12_costTried 3 (some .int), Cond.fieldLink RX12 84 "ShortEnoughModel" "castCost" "[I", Cond.fieldLink RX12 59 "ShortEnoughModel" "formatCost" "[I", Cond.methodLink RX12 437 yX12_castsTried, Cond.instanceMethod yX12_castsTried, Cond.selects RX12 yX12_castsTried yX12_castsTried, Cond.code yX12_castsTried cX12_castsTried 3 (some .int), Cond.methodLink RX12 433 yX12_isCast, Cond.instanceMethod yX12_isCast, Cond.selects RX12 yX12_isCast yX12_isCast, Cond.code yX12_isCast cX12_isCast 3 (some .boolean)]
noncomputable def wsX12_halve_r6 : List Cond := [Cond.methodLink RX12 484 yX12_halvesBy, Cond.instanceMethod yX12_halvesBy, Cond.selects RX12 yX12_halvesBy yX12_halvesBy, Cond.code yX12_halvesBy cX12_halvesBy 7 none, Cond.fieldLink RX12 156 "ShortEnoughModel" "row" "[I", Cond.fieldLink RX12 159 "ShortEnoughModel" "partFrom" "[I", Cond.fieldLink RX12 162 "ShortEnoughModel" "partMany" "[I", Cond.methodLink RX12 480 yX12_isBetter, Cond.instanceMethod yX12_isBetter, Cond.selects RX12 yX12_isBetter yX12_isBetter, Cond.code yX12_isBetter cX12_isBetter 5 (some .boolean)]
noncomputable def wsX12_halve : List Cond := .code yX12_halve cX12_halve 3 (some .boolean) :: ((wsX12_halve_r1 ++ (wsX12_halve_r2 ++ (wsX12_halve_r3 ++ (wsX12_halve_r4 ++ (wsX12_halve_r5 ++ wsX12_halve_r6))))) ++ wsX120)
noncomputable def wsX12_halves_r1 : List Cond := [Cond.fieldLink RX12 147 "ShortEnoughModel" "soFarCost" "I", Cond.fieldLink RX12 150 "ShortEnoughModel" "tries" "I", Cond.fieldLink RX12 144 "ShortEnoughModel" "soFar" "[I", Cond.methodLink RX12 373 yX12_isNumber, Cond.instanceMethod yX12_isNumber, Cond.selects RX12 yX12_isNumber yX12_isNumber, Cond.initialized RX12, Cond.code yX12_isNumber cX12_isNumber 2 (some .boolean), Cond.fieldLink RX12 62 "ShortEnoughModel" "numbers" "[I", Cond.methodLink RX12 263 yX12_isIn, Cond.static yX12_isIn, Cond.code yX12_isIn cX12_isIn 6 (some .boolean), Cond.methodLink RX12 487 yX12_halve, Cond.instanceMethod yX12_halve, Cond.selects RX12 yX12_halve yX12_halve, Cond.code yX12_halve cX12_halve 3 (some .boolean), Cond.fieldLink RX12 112 "ShortEnoughModel" "wideNumber" "I", Cond.fieldLink RX12 103 "ShortEnoughModel" "freeMany" "I", Cond.fieldLink RX12 100 "ShortEnoughModel" "free" "[I", Cond.fieldLink RX12 153 "ShortEnoughModel" "hasChanged" "[Z", Cond.fieldLink RX12 47 "ShortEnoughModel" "formats" "[I", Cond.methodLink RX12 358 yX12_laysFree, Cond.instanceMethod yX12_laysFree, Cond.selects RX12 yX12_laysFree yX12_laysFree]
noncomputable def wsX12_halves_r2 : List Cond := [Cond.code yX12_laysFree cX12_laysFree 2 none, Cond.fieldLink RX12 93 "ShortEnoughModel" "groupOf" "[I", Cond.methodLink RX12 355 yX12_isFree, Cond.instanceMethod yX12_isFree, Cond.selects RX12 yX12_isFree yX12_isFree, Cond.code yX12_isFree cX12_isFree 3 (some .boolean), Cond.fieldLink RX12 87 "ShortEnoughModel" "fixedAs" "[I", Cond.methodLink RX12 446 yX12_isThere, Cond.instanceMethod yX12_isThere, Cond.selects RX12 yX12_isThere yX12_isThere, Cond.code yX12_isThere cX12_isThere 1 (some .boolean), Cond.fieldLink RX12 128 "ShortEnoughModel" "hasHand" "Z", Cond.methodLink RX12 459 yX12_finest, Cond.instanceMethod yX12_finest, Cond.selects RX12 yX12_finest yX12_finest, Cond.code yX12_finest cX12_finest 3 (some .int), Cond.fieldLink RX12 53 "ShortEnoughModel" "step" "[I", Cond.methodLink RX12 440 yX12_triesHand, Cond.instanceMethod yX12_triesHand, Cond.selects RX12 yX12_triesHand yX12_triesHand, Cond.code yX12_triesHand cX12_triesHand 2 none, Cond.fieldLink RX12 132 "ShortEnoughModel" "tried" "[I", Cond.fieldLink RX12 125 "ShortEnoughModel" "hand" "[I", Cond.methodLink RX12 462 yX12_triesGroup]
noncomputable def wsX12_halves_r3 : List Cond := [Cond.instanceMethod yX12_triesGroup, Cond.selects RX12 yX12_triesGroup yX12_triesGroup, Cond.code yX12_triesGroup cX12_triesGroup 4 none, Cond.methodLink RX12 443 yX12_passes, Cond.instanceMethod yX12_passes, Cond.selects RX12 yX12_passes yX12_passes, Cond.code yX12_passes cX12_passes 2 (some .boolean), Cond.fieldLink RX12 138 "ShortEnoughModel" "failsAt" "I", Cond.fieldLink RX12 141 "ShortEnoughModel" "failsWhy" "I", Cond.fieldLink RX12 135 "ShortEnoughModel" "error" "[J", Cond.fieldLink RX12 56 "ShortEnoughModel" "most" "[I", Cond.fieldLink RX12 90 "ShortEnoughModel" "within" "[I", Cond.methodLink RX12 417 yX12_laysRange, Cond.instanceMethod yX12_laysRange, Cond.selects RX12 yX12_laysRange yX12_laysRange, Cond.code yX12_laysRange cX12_laysRange 18 none, Cond.fieldLink RX12 68 "ShortEnoughModel" "op" "[I", Cond.fieldLink RX12 115 "ShortEnoughModel" "wideBy" "J", Cond.fieldLink RX12 106 "ShortEnoughModel" "least" "[J", Cond.fieldLink RX12 77 "ShortEnoughModel" "firstV" "[J", Cond.fieldLink RX12 109 "ShortEnoughModel" "greatest" "[J", Cond.fieldLink RX12 81 "ShortEnoughModel" "secondV" "[J", Cond.methodLink RX12 399 yX12_lowOf, Cond.instanceMethod yX12_lowOf]
noncomputable def wsX12_halves_r4 : List Cond := [Cond.selects RX12 yX12_lowOf yX12_lowOf, Cond.code yX12_lowOf cX12_lowOf 4 (some .long), Cond.fieldLink RX12 74 "ShortEnoughModel" "second" "[I", Cond.fieldLink RX12 71 "ShortEnoughModel" "first" "[I", Cond.methodLink RX12 403 yX12_highOf, Cond.instanceMethod yX12_highOf, Cond.selects RX12 yX12_highOf yX12_highOf, Cond.code yX12_highOf cX12_highOf 4 (some .long), Cond.methodLink RX12 406 yX12_two, Cond.static yX12_two, Cond.code yX12_two cX12_two 7 (some .long), Cond.methodLink RX12 392 yX12_roundedProduct, Cond.static yX12_roundedProduct, Cond.code yX12_roundedProduct cX12_roundedProduct 6 (some .long), Cond.constantLong RX12 383 (2), Cond.constantLong RX12 388 (1000), Cond.constantLong RX12 390 (2000), Cond.methodLink RX12 385 yX12_floor, Cond.static yX12_floor, Cond.code yX12_floor cX12_floor 6 (some .long), Cond.methodLink RX12 322 yX12_lesser, Cond.static yX12_lesser, Cond.code yX12_lesser cX12_lesser 4 (some .long), Cond.methodLink RX12 396 yX12_greater]
noncomputable def wsX12_halves_r5 : List Cond := [Cond.static yX12_greater, Cond.code yX12_greater cX12_greater 4 (some .long), Cond.methodLink RX12 430 yX12_laysError, Cond.instanceMethod yX12_laysError, Cond.selects RX12 yX12_laysError yX12_laysError, Cond.code yX12_laysError cX12_laysError 12 none, Cond.methodLink RX12 427 yX12_castError, Cond.instanceMethod yX12_castError, Cond.selects RX12 yX12_castError yX12_castError, Cond.code yX12_castError cX12_castError 6 (some .long), Cond.methodLink RX12 410 yX12_amount, Cond.static yX12_amount, Cond.code yX12_amount cX12_amount 2 (some .long), Cond.methodLink RX12 420 yX12_mostOf, Cond.instanceMethod yX12_mostOf, Cond.selects RX12 yX12_mostOf yX12_mostOf, Cond.code yX12_mostOf cX12_mostOf 2 (some .long), Cond.methodLink RX12 477 yX12_keepsTried, Cond.instanceMethod yX12_keepsTried, Cond.selects RX12 yX12_keepsTried yX12_keepsTried, Cond.code yX12_keepsTried cX12_keepsTried 2 none, Cond.methodLink RX12 449 yX12_costTried, Cond.instanceMethod yX12_costTried, Cond.selects RX12 yX12_costTried yX12_costTried]
noncomputable def wsX12_halves_r6 : List Cond := [Cond.code yX12_costTried cX12_costTried 3 (some .int), Cond.fieldLink RX12 84 "ShortEnoughModel" "castCost" "[I", Cond.fieldLink RX12 59 "ShortEnoughModel" "formatCost" "[I", Cond.methodLink RX12 437 yX12_castsTried, Cond.instanceMethod yX12_castsTried, Cond.selects RX12 yX12_castsTried yX12_castsTried, Cond.code yX12_castsTried cX12_castsTried 3 (some .int), Cond.methodLink RX12 433 yX12_isCast, Cond.instanceMethod yX12_isCast, Cond.selects RX12 yX12_isCast yX12_isCast, Cond.code yX12_isCast cX12_isCast 3 (some .boolean), Cond.methodLink RX12 484 yX12_halvesBy, Cond.instanceMethod yX12_halvesBy, Cond.selects RX12 yX12_halvesBy yX12_halvesBy, Cond.code yX12_halvesBy cX12_halvesBy 7 none, Cond.fieldLink RX12 156 "ShortEnoughModel" "row" "[I", Cond.fieldLink RX12 159 "ShortEnoughModel" "partFrom" "[I", Cond.fieldLink RX12 162 "ShortEnoughModel" "partMany" "[I", Cond.methodLink RX12 480 yX12_isBetter, Cond.instanceMethod yX12_isBetter, Cond.selects RX12 yX12_isBetter yX12_isBetter, Cond.code yX12_isBetter cX12_isBetter 5 (some .boolean)]
noncomputable def wsX12_halves : List Cond := .code yX12_halves cX12_halves 2 (some .int) :: ((wsX12_halves_r1 ++ (wsX12_halves_r2 ++ (wsX12_halves_r3 ++ (wsX12_halves_r4 ++ (wsX12_halves_r5 ++ wsX12_halves_r6))))) ++ wsX120)
noncomputable def wsX12_laysSingle_r1 : List Cond := [Cond.fieldLink RX12 112 "ShortEnoughModel" "wideNumber" "I", Cond.fieldLink RX12 165 "ShortEnoughModel" "singlePass" "I", Cond.fieldLink RX12 168 "ShortEnoughModel" "singleLess" "I", Cond.fieldLink RX12 171 "ShortEnoughModel" "singleGroup" "I", Cond.fieldLink RX12 174 "ShortEnoughModel" "singleFormat" "I", Cond.fieldLink RX12 103 "ShortEnoughModel" "freeMany" "I", Cond.fieldLink RX12 47 "ShortEnoughModel" "formats" "[I", Cond.fieldLink RX12 125 "ShortEnoughModel" "hand" "[I", Cond.fieldLink RX12 100 "ShortEnoughModel" "free" "[I", Cond.methodLink RX12 358 yX12_laysFree, Cond.instanceMethod yX12_laysFree, Cond.selects RX12 yX12_laysFree yX12_laysFree, Cond.initialized RX12, Cond.code yX12_laysFree cX12_laysFree 2 none, Cond.fieldLink RX12 62 "ShortEnoughModel" "numbers" "[I", Cond.fieldLink RX12 93 "ShortEnoughModel" "groupOf" "[I", Cond.methodLink RX12 355 yX12_isFree, Cond.instanceMethod yX12_isFree, Cond.selects RX12 yX12_isFree yX12_isFree, Cond.code yX12_isFree cX12_isFree 3 (some .boolean), Cond.fieldLink RX12 87 "ShortEnoughModel" "fixedAs" "[I", Cond.methodLink RX12 440 yX12_triesHand, Cond.instanceMethod yX12_triesHand, Cond.selects RX12 yX12_triesHand yX12_triesHand]
noncomputable def wsX12_laysSingle_r2 : List Cond := [Cond.code yX12_triesHand cX12_triesHand 2 none, Cond.fieldLink RX12 132 "ShortEnoughModel" "tried" "[I", Cond.methodLink RX12 449 yX12_costTried, Cond.instanceMethod yX12_costTried, Cond.selects RX12 yX12_costTried yX12_costTried, Cond.code yX12_costTried cX12_costTried 3 (some .int), Cond.fieldLink RX12 84 "ShortEnoughModel" "castCost" "[I", Cond.fieldLink RX12 59 "ShortEnoughModel" "formatCost" "[I", Cond.methodLink RX12 437 yX12_castsTried, Cond.instanceMethod yX12_castsTried, Cond.selects RX12 yX12_castsTried yX12_castsTried, Cond.code yX12_castsTried cX12_castsTried 3 (some .int), Cond.fieldLink RX12 71 "ShortEnoughModel" "first" "[I", Cond.fieldLink RX12 74 "ShortEnoughModel" "second" "[I", Cond.methodLink RX12 433 yX12_isCast, Cond.instanceMethod yX12_isCast, Cond.selects RX12 yX12_isCast yX12_isCast, Cond.code yX12_isCast cX12_isCast 3 (some .boolean), Cond.methodLink RX12 462 yX12_triesGroup, Cond.instanceMethod yX12_triesGroup, Cond.selects RX12 yX12_triesGroup yX12_triesGroup, Cond.code yX12_triesGroup cX12_triesGroup 4 none, Cond.methodLink RX12 443 yX12_passes, Cond.instanceMethod yX12_passes]
noncomputable def wsX12_laysSingle_r3 : List Cond := [Cond.selects RX12 yX12_passes yX12_passes, Cond.code yX12_passes cX12_passes 2 (some .boolean), Cond.fieldLink RX12 138 "ShortEnoughModel" "failsAt" "I", Cond.fieldLink RX12 141 "ShortEnoughModel" "failsWhy" "I", Cond.fieldLink RX12 135 "ShortEnoughModel" "error" "[J", Cond.fieldLink RX12 56 "ShortEnoughModel" "most" "[I", Cond.fieldLink RX12 90 "ShortEnoughModel" "within" "[I", Cond.methodLink RX12 417 yX12_laysRange, Cond.instanceMethod yX12_laysRange, Cond.selects RX12 yX12_laysRange yX12_laysRange, Cond.code yX12_laysRange cX12_laysRange 18 none, Cond.fieldLink RX12 68 "ShortEnoughModel" "op" "[I", Cond.fieldLink RX12 115 "ShortEnoughModel" "wideBy" "J", Cond.fieldLink RX12 106 "ShortEnoughModel" "least" "[J", Cond.fieldLink RX12 77 "ShortEnoughModel" "firstV" "[J", Cond.fieldLink RX12 109 "ShortEnoughModel" "greatest" "[J", Cond.fieldLink RX12 81 "ShortEnoughModel" "secondV" "[J", Cond.methodLink RX12 399 yX12_lowOf, Cond.instanceMethod yX12_lowOf, Cond.selects RX12 yX12_lowOf yX12_lowOf, Cond.code yX12_lowOf cX12_lowOf 4 (some .long), Cond.methodLink RX12 403 yX12_highOf, Cond.instanceMethod yX12_highOf, Cond.selects RX12 yX12_highOf yX12_highOf]
noncomputable def wsX12_laysSingle_r4 : List Cond := [Cond.code yX12_highOf cX12_highOf 4 (some .long), Cond.methodLink RX12 406 yX12_two, Cond.static yX12_two, Cond.code yX12_two cX12_two 7 (some .long), Cond.methodLink RX12 392 yX12_roundedProduct, Cond.static yX12_roundedProduct, Cond.code yX12_roundedProduct cX12_roundedProduct 6 (some .long), Cond.constantLong RX12 383 (2), Cond.constantLong RX12 388 (1000), Cond.constantLong RX12 390 (2000), Cond.methodLink RX12 385 yX12_floor, Cond.static yX12_floor, Cond.code yX12_floor cX12_floor 6 (some .long), Cond.methodLink RX12 322 yX12_lesser, Cond.static yX12_lesser, Cond.code yX12_lesser cX12_lesser 4 (some .long), Cond.methodLink RX12 396 yX12_greater, Cond.static yX12_greater, Cond.code yX12_greater cX12_greater 4 (some .long), Cond.methodLink RX12 430 yX12_laysError, Cond.instanceMethod yX12_laysError, Cond.selects RX12 yX12_laysError yX12_laysError, Cond.code yX12_laysError cX12_laysError 12 none, Cond.fieldLink RX12 53 "ShortEnoughModel" "step" "[I"]
noncomputable def wsX12_laysSingle_r5 : List Cond := [Cond.methodLink RX12 427 yX12_castError, Cond.instanceMethod yX12_castError, Cond.selects RX12 yX12_castError yX12_castError, Cond.code yX12_castError cX12_castError 6 (some .long), Cond.methodLink RX12 410 yX12_amount, Cond.static yX12_amount, Cond.code yX12_amount cX12_amount 2 (some .long), Cond.methodLink RX12 420 yX12_mostOf, Cond.instanceMethod yX12_mostOf, Cond.selects RX12 yX12_mostOf yX12_mostOf, Cond.code yX12_mostOf cX12_mostOf 2 (some .long)]
noncomputable def wsX12_laysSingle : List Cond := .code yX12_laysSingle cX12_laysSingle 6 none :: ((wsX12_laysSingle_r1 ++ (wsX12_laysSingle_r2 ++ (wsX12_laysSingle_r3 ++ (wsX12_laysSingle_r4 ++ wsX12_laysSingle_r5)))) ++ wsX120)
noncomputable def wsX12_single_r1 : List Cond := [Cond.constantLong RX12 490 (3), Cond.fieldLink RX12 165 "ShortEnoughModel" "singlePass" "I", Cond.fieldLink RX12 168 "ShortEnoughModel" "singleLess" "I", Cond.fieldLink RX12 171 "ShortEnoughModel" "singleGroup" "I", Cond.fieldLink RX12 174 "ShortEnoughModel" "singleFormat" "I", Cond.methodLink RX12 446 yX12_isThere, Cond.instanceMethod yX12_isThere, Cond.selects RX12 yX12_isThere yX12_isThere, Cond.initialized RX12, Cond.code yX12_isThere cX12_isThere 1 (some .boolean), Cond.fieldLink RX12 128 "ShortEnoughModel" "hasHand" "Z", Cond.fieldLink RX12 62 "ShortEnoughModel" "numbers" "[I", Cond.methodLink RX12 263 yX12_isIn, Cond.static yX12_isIn, Cond.code yX12_isIn cX12_isIn 6 (some .boolean), Cond.methodLink RX12 492 yX12_laysSingle, Cond.instanceMethod yX12_laysSingle, Cond.selects RX12 yX12_laysSingle yX12_laysSingle, Cond.code yX12_laysSingle cX12_laysSingle 6 none, Cond.fieldLink RX12 112 "ShortEnoughModel" "wideNumber" "I", Cond.fieldLink RX12 103 "ShortEnoughModel" "freeMany" "I", Cond.fieldLink RX12 47 "ShortEnoughModel" "formats" "[I", Cond.fieldLink RX12 125 "ShortEnoughModel" "hand" "[I", Cond.fieldLink RX12 100 "ShortEnoughModel" "free" "[I"]
noncomputable def wsX12_single_r2 : List Cond := [Cond.methodLink RX12 358 yX12_laysFree, Cond.instanceMethod yX12_laysFree, Cond.selects RX12 yX12_laysFree yX12_laysFree, Cond.code yX12_laysFree cX12_laysFree 2 none, Cond.fieldLink RX12 93 "ShortEnoughModel" "groupOf" "[I", Cond.methodLink RX12 355 yX12_isFree, Cond.instanceMethod yX12_isFree, Cond.selects RX12 yX12_isFree yX12_isFree, Cond.code yX12_isFree cX12_isFree 3 (some .boolean), Cond.fieldLink RX12 87 "ShortEnoughModel" "fixedAs" "[I", Cond.methodLink RX12 440 yX12_triesHand, Cond.instanceMethod yX12_triesHand, Cond.selects RX12 yX12_triesHand yX12_triesHand, Cond.code yX12_triesHand cX12_triesHand 2 none, Cond.fieldLink RX12 132 "ShortEnoughModel" "tried" "[I", Cond.methodLink RX12 449 yX12_costTried, Cond.instanceMethod yX12_costTried, Cond.selects RX12 yX12_costTried yX12_costTried, Cond.code yX12_costTried cX12_costTried 3 (some .int), Cond.fieldLink RX12 84 "ShortEnoughModel" "castCost" "[I", Cond.fieldLink RX12 59 "ShortEnoughModel" "formatCost" "[I", Cond.methodLink RX12 437 yX12_castsTried, Cond.instanceMethod yX12_castsTried, Cond.selects RX12 yX12_castsTried yX12_castsTried]
noncomputable def wsX12_single_r3 : List Cond := [Cond.code yX12_castsTried cX12_castsTried 3 (some .int), Cond.fieldLink RX12 71 "ShortEnoughModel" "first" "[I", Cond.fieldLink RX12 74 "ShortEnoughModel" "second" "[I", Cond.methodLink RX12 433 yX12_isCast, Cond.instanceMethod yX12_isCast, Cond.selects RX12 yX12_isCast yX12_isCast, Cond.code yX12_isCast cX12_isCast 3 (some .boolean), Cond.methodLink RX12 462 yX12_triesGroup, Cond.instanceMethod yX12_triesGroup, Cond.selects RX12 yX12_triesGroup yX12_triesGroup, Cond.code yX12_triesGroup cX12_triesGroup 4 none, Cond.methodLink RX12 443 yX12_passes, Cond.instanceMethod yX12_passes, Cond.selects RX12 yX12_passes yX12_passes, Cond.code yX12_passes cX12_passes 2 (some .boolean), Cond.fieldLink RX12 138 "ShortEnoughModel" "failsAt" "I", Cond.fieldLink RX12 141 "ShortEnoughModel" "failsWhy" "I", Cond.fieldLink RX12 135 "ShortEnoughModel" "error" "[J", Cond.fieldLink RX12 56 "ShortEnoughModel" "most" "[I", Cond.fieldLink RX12 90 "ShortEnoughModel" "within" "[I", Cond.methodLink RX12 417 yX12_laysRange, Cond.instanceMethod yX12_laysRange, Cond.selects RX12 yX12_laysRange yX12_laysRange, Cond.code yX12_laysRange cX12_laysRange 18 none]
noncomputable def wsX12_single_r4 : List Cond := [Cond.fieldLink RX12 68 "ShortEnoughModel" "op" "[I", Cond.fieldLink RX12 115 "ShortEnoughModel" "wideBy" "J", Cond.fieldLink RX12 106 "ShortEnoughModel" "least" "[J", Cond.fieldLink RX12 77 "ShortEnoughModel" "firstV" "[J", Cond.fieldLink RX12 109 "ShortEnoughModel" "greatest" "[J", Cond.fieldLink RX12 81 "ShortEnoughModel" "secondV" "[J", Cond.methodLink RX12 399 yX12_lowOf, Cond.instanceMethod yX12_lowOf, Cond.selects RX12 yX12_lowOf yX12_lowOf, Cond.code yX12_lowOf cX12_lowOf 4 (some .long), Cond.methodLink RX12 403 yX12_highOf, Cond.instanceMethod yX12_highOf, Cond.selects RX12 yX12_highOf yX12_highOf, Cond.code yX12_highOf cX12_highOf 4 (some .long), Cond.methodLink RX12 406 yX12_two, Cond.static yX12_two, Cond.code yX12_two cX12_two 7 (some .long), Cond.methodLink RX12 392 yX12_roundedProduct, Cond.static yX12_roundedProduct, Cond.code yX12_roundedProduct cX12_roundedProduct 6 (some .long), Cond.constantLong RX12 383 (2), Cond.constantLong RX12 388 (1000), Cond.constantLong RX12 390 (2000), Cond.methodLink RX12 385 yX12_floor]
noncomputable def wsX12_single_r5 : List Cond := [Cond.static yX12_floor, Cond.code yX12_floor cX12_floor 6 (some .long), Cond.methodLink RX12 322 yX12_lesser, Cond.static yX12_lesser, Cond.code yX12_lesser cX12_lesser 4 (some .long), Cond.methodLink RX12 396 yX12_greater, Cond.static yX12_greater, Cond.code yX12_greater cX12_greater 4 (some .long), Cond.methodLink RX12 430 yX12_laysError, Cond.instanceMethod yX12_laysError, Cond.selects RX12 yX12_laysError yX12_laysError, Cond.code yX12_laysError cX12_laysError 12 none, Cond.fieldLink RX12 53 "ShortEnoughModel" "step" "[I", Cond.methodLink RX12 427 yX12_castError, Cond.instanceMethod yX12_castError, Cond.selects RX12 yX12_castError yX12_castError, Cond.code yX12_castError cX12_castError 6 (some .long), Cond.methodLink RX12 410 yX12_amount, Cond.static yX12_amount, Cond.code yX12_amount cX12_amount 2 (some .long), Cond.methodLink RX12 420 yX12_mostOf, Cond.instanceMethod yX12_mostOf, Cond.selects RX12 yX12_mostOf yX12_mostOf, Cond.code yX12_mostOf cX12_mostOf 2 (some .long)]
noncomputable def wsX12_single : List Cond := .code yX12_single cX12_single 2 (some .int) :: ((wsX12_single_r1 ++ (wsX12_single_r2 ++ (wsX12_single_r3 ++ (wsX12_single_r4 ++ wsX12_single_r5)))) ++ wsX120)
noncomputable def wsX12_takesTried : List Cond := .code yX12_takesTried cX12_takesTried 2 none :: ([Cond.fieldLink RX12 62 "ShortEnoughModel" "numbers" "[I", Cond.fieldLink RX12 125 "ShortEnoughModel" "hand" "[I", Cond.fieldLink RX12 132 "ShortEnoughModel" "tried" "[I"] ++ wsX120)
noncomputable def wsX12_canTake_r1 : List Cond := [Cond.fieldLink RX12 62 "ShortEnoughModel" "numbers" "[I", Cond.fieldLink RX12 132 "ShortEnoughModel" "tried" "[I", Cond.fieldLink RX12 144 "ShortEnoughModel" "soFar" "[I", Cond.fieldLink RX12 171 "ShortEnoughModel" "singleGroup" "I", Cond.fieldLink RX12 174 "ShortEnoughModel" "singleFormat" "I", Cond.methodLink RX12 471 yX12_canSearch, Cond.instanceMethod yX12_canSearch, Cond.selects RX12 yX12_canSearch yX12_canSearch, Cond.initialized RX12, Cond.code yX12_canSearch cX12_canSearch 1 (some .boolean), Cond.fieldLink RX12 112 "ShortEnoughModel" "wideNumber" "I", Cond.fieldLink RX12 128 "ShortEnoughModel" "hasHand" "Z", Cond.fieldLink RX12 103 "ShortEnoughModel" "freeMany" "I", Cond.methodLink RX12 358 yX12_laysFree, Cond.instanceMethod yX12_laysFree, Cond.selects RX12 yX12_laysFree yX12_laysFree, Cond.code yX12_laysFree cX12_laysFree 2 none, Cond.fieldLink RX12 93 "ShortEnoughModel" "groupOf" "[I", Cond.fieldLink RX12 100 "ShortEnoughModel" "free" "[I", Cond.methodLink RX12 355 yX12_isFree, Cond.instanceMethod yX12_isFree, Cond.selects RX12 yX12_isFree yX12_isFree, Cond.code yX12_isFree cX12_isFree 3 (some .boolean), Cond.fieldLink RX12 87 "ShortEnoughModel" "fixedAs" "[I"]
noncomputable def wsX12_canTake_r2 : List Cond := [Cond.methodLink RX12 474 yX12_cheapestChoice, Cond.instanceMethod yX12_cheapestChoice, Cond.selects RX12 yX12_cheapestChoice yX12_cheapestChoice, Cond.code yX12_cheapestChoice cX12_cheapestChoice 6 (some .int), Cond.methodLink RX12 465 yX12_allChoices, Cond.instanceMethod yX12_allChoices, Cond.selects RX12 yX12_allChoices yX12_allChoices, Cond.code yX12_allChoices cX12_allChoices 3 (some .int), Cond.fieldLink RX12 47 "ShortEnoughModel" "formats" "[I", Cond.methodLink RX12 468 yX12_triesChoice, Cond.instanceMethod yX12_triesChoice, Cond.selects RX12 yX12_triesChoice yX12_triesChoice, Cond.code yX12_triesChoice cX12_triesChoice 4 none, Cond.methodLink RX12 440 yX12_triesHand, Cond.instanceMethod yX12_triesHand, Cond.selects RX12 yX12_triesHand yX12_triesHand, Cond.code yX12_triesHand cX12_triesHand 2 none, Cond.fieldLink RX12 125 "ShortEnoughModel" "hand" "[I", Cond.methodLink RX12 462 yX12_triesGroup, Cond.instanceMethod yX12_triesGroup, Cond.selects RX12 yX12_triesGroup yX12_triesGroup, Cond.code yX12_triesGroup cX12_triesGroup 4 none, Cond.methodLink RX12 449 yX12_costTried, Cond.instanceMethod yX12_costTried]
noncomputable def wsX12_canTake_r3 : List Cond := [Cond.selects RX12 yX12_costTried yX12_costTried, Cond.code yX12_costTried cX12_costTried 3 (some .int), Cond.fieldLink RX12 84 "ShortEnoughModel" "castCost" "[I", Cond.fieldLink RX12 59 "ShortEnoughModel" "formatCost" "[I", Cond.methodLink RX12 437 yX12_castsTried, Cond.instanceMethod yX12_castsTried, Cond.selects RX12 yX12_castsTried yX12_castsTried, Cond.code yX12_castsTried cX12_castsTried 3 (some .int), Cond.fieldLink RX12 71 "ShortEnoughModel" "first" "[I", Cond.fieldLink RX12 74 "ShortEnoughModel" "second" "[I", Cond.methodLink RX12 433 yX12_isCast, Cond.instanceMethod yX12_isCast, Cond.selects RX12 yX12_isCast yX12_isCast, Cond.code yX12_isCast cX12_isCast 3 (some .boolean), Cond.methodLink RX12 443 yX12_passes, Cond.instanceMethod yX12_passes, Cond.selects RX12 yX12_passes yX12_passes, Cond.code yX12_passes cX12_passes 2 (some .boolean), Cond.fieldLink RX12 138 "ShortEnoughModel" "failsAt" "I", Cond.fieldLink RX12 141 "ShortEnoughModel" "failsWhy" "I", Cond.fieldLink RX12 135 "ShortEnoughModel" "error" "[J", Cond.fieldLink RX12 56 "ShortEnoughModel" "most" "[I", Cond.fieldLink RX12 90 "ShortEnoughModel" "within" "[I", Cond.methodLink RX12 417 yX12_laysRange]
noncomputable def wsX12_canTake_r4 : List Cond := [Cond.instanceMethod yX12_laysRange, Cond.selects RX12 yX12_laysRange yX12_laysRange, Cond.code yX12_laysRange cX12_laysRange 18 none, Cond.fieldLink RX12 68 "ShortEnoughModel" "op" "[I", Cond.fieldLink RX12 115 "ShortEnoughModel" "wideBy" "J", Cond.fieldLink RX12 106 "ShortEnoughModel" "least" "[J", Cond.fieldLink RX12 77 "ShortEnoughModel" "firstV" "[J", Cond.fieldLink RX12 109 "ShortEnoughModel" "greatest" "[J", Cond.fieldLink RX12 81 "ShortEnoughModel" "secondV" "[J", Cond.methodLink RX12 399 yX12_lowOf, Cond.instanceMethod yX12_lowOf, Cond.selects RX12 yX12_lowOf yX12_lowOf, Cond.code yX12_lowOf cX12_lowOf 4 (some .long), Cond.methodLink RX12 403 yX12_highOf, Cond.instanceMethod yX12_highOf, Cond.selects RX12 yX12_highOf yX12_highOf, Cond.code yX12_highOf cX12_highOf 4 (some .long), Cond.methodLink RX12 406 yX12_two, Cond.static yX12_two, Cond.code yX12_two cX12_two 7 (some .long), Cond.methodLink RX12 392 yX12_roundedProduct, Cond.static yX12_roundedProduct, Cond.code yX12_roundedProduct cX12_roundedProduct 6 (some .long), Cond.constantLong RX12 383 (2)]
noncomputable def wsX12_canTake_r5 : List Cond := [Cond.constantLong RX12 388 (1000), Cond.constantLong RX12 390 (2000), Cond.methodLink RX12 385 yX12_floor, Cond.static yX12_floor, Cond.code yX12_floor cX12_floor 6 (some .long), Cond.methodLink RX12 322 yX12_lesser, Cond.static yX12_lesser, Cond.code yX12_lesser cX12_lesser 4 (some .long), Cond.methodLink RX12 396 yX12_greater, Cond.static yX12_greater, Cond.code yX12_greater cX12_greater 4 (some .long), Cond.methodLink RX12 430 yX12_laysError, Cond.instanceMethod yX12_laysError, Cond.selects RX12 yX12_laysError yX12_laysError, Cond.code yX12_laysError cX12_laysError 12 none, Cond.fieldLink RX12 53 "ShortEnoughModel" "step" "[I", Cond.methodLink RX12 427 yX12_castError, Cond.instanceMethod yX12_castError, Cond.selects RX12 yX12_castError yX12_castError, Cond.code yX12_castError cX12_castError 6 (some .long), Cond.methodLink RX12 410 yX12_amount, Cond.static yX12_amount, Cond.code yX12_amount cX12_amount 2 (some .long), Cond.methodLink RX12 420 yX12_mostOf]
noncomputable def wsX12_canTake_r6 : List Cond := [Cond.instanceMethod yX12_mostOf, Cond.selects RX12 yX12_mostOf yX12_mostOf, Cond.code yX12_mostOf cX12_mostOf 2 (some .long), Cond.methodLink RX12 487 yX12_halve, Cond.instanceMethod yX12_halve, Cond.selects RX12 yX12_halve yX12_halve, Cond.code yX12_halve cX12_halve 3 (some .boolean), Cond.fieldLink RX12 153 "ShortEnoughModel" "hasChanged" "[Z", Cond.fieldLink RX12 150 "ShortEnoughModel" "tries" "I", Cond.methodLink RX12 446 yX12_isThere, Cond.instanceMethod yX12_isThere, Cond.selects RX12 yX12_isThere yX12_isThere, Cond.code yX12_isThere cX12_isThere 1 (some .boolean), Cond.methodLink RX12 459 yX12_finest, Cond.instanceMethod yX12_finest, Cond.selects RX12 yX12_finest yX12_finest, Cond.code yX12_finest cX12_finest 3 (some .int), Cond.methodLink RX12 477 yX12_keepsTried, Cond.instanceMethod yX12_keepsTried, Cond.selects RX12 yX12_keepsTried yX12_keepsTried, Cond.code yX12_keepsTried cX12_keepsTried 2 none, Cond.fieldLink RX12 147 "ShortEnoughModel" "soFarCost" "I", Cond.methodLink RX12 484 yX12_halvesBy, Cond.instanceMethod yX12_halvesBy]
noncomputable def wsX12_canTake_r7 : List Cond := [Cond.selects RX12 yX12_halvesBy yX12_halvesBy, Cond.code yX12_halvesBy cX12_halvesBy 7 none, Cond.fieldLink RX12 156 "ShortEnoughModel" "row" "[I", Cond.fieldLink RX12 159 "ShortEnoughModel" "partFrom" "[I", Cond.fieldLink RX12 162 "ShortEnoughModel" "partMany" "[I", Cond.methodLink RX12 480 yX12_isBetter, Cond.instanceMethod yX12_isBetter, Cond.selects RX12 yX12_isBetter yX12_isBetter, Cond.code yX12_isBetter cX12_isBetter 5 (some .boolean), Cond.methodLink RX12 492 yX12_laysSingle, Cond.instanceMethod yX12_laysSingle, Cond.selects RX12 yX12_laysSingle yX12_laysSingle, Cond.code yX12_laysSingle cX12_laysSingle 6 none, Cond.fieldLink RX12 165 "ShortEnoughModel" "singlePass" "I", Cond.fieldLink RX12 168 "ShortEnoughModel" "singleLess" "I"]
noncomputable def wsX12_canTake : List Cond := .code yX12_canTake cX12_canTake 4 (some .boolean) :: ((wsX12_canTake_r1 ++ (wsX12_canTake_r2 ++ (wsX12_canTake_r3 ++ (wsX12_canTake_r4 ++ (wsX12_canTake_r5 ++ (wsX12_canTake_r6 ++ wsX12_canTake_r7)))))) ++ wsX120)
noncomputable def wsX12_take_r1 : List Cond := [Cond.methodLink RX12 495 yX12_canTake, Cond.instanceMethod yX12_canTake, Cond.selects RX12 yX12_canTake yX12_canTake, Cond.initialized RX12, Cond.code yX12_canTake cX12_canTake 4 (some .boolean), Cond.fieldLink RX12 62 "ShortEnoughModel" "numbers" "[I", Cond.fieldLink RX12 132 "ShortEnoughModel" "tried" "[I", Cond.fieldLink RX12 144 "ShortEnoughModel" "soFar" "[I", Cond.fieldLink RX12 171 "ShortEnoughModel" "singleGroup" "I", Cond.fieldLink RX12 174 "ShortEnoughModel" "singleFormat" "I", Cond.methodLink RX12 471 yX12_canSearch, Cond.instanceMethod yX12_canSearch, Cond.selects RX12 yX12_canSearch yX12_canSearch, Cond.code yX12_canSearch cX12_canSearch 1 (some .boolean), Cond.fieldLink RX12 112 "ShortEnoughModel" "wideNumber" "I", Cond.fieldLink RX12 128 "ShortEnoughModel" "hasHand" "Z", Cond.fieldLink RX12 103 "ShortEnoughModel" "freeMany" "I", Cond.methodLink RX12 358 yX12_laysFree, Cond.instanceMethod yX12_laysFree, Cond.selects RX12 yX12_laysFree yX12_laysFree, Cond.code yX12_laysFree cX12_laysFree 2 none, Cond.fieldLink RX12 93 "ShortEnoughModel" "groupOf" "[I", Cond.fieldLink RX12 100 "ShortEnoughModel" "free" "[I", Cond.methodLink RX12 355 yX12_isFree]
noncomputable def wsX12_take_r2 : List Cond := [Cond.instanceMethod yX12_isFree, Cond.selects RX12 yX12_isFree yX12_isFree, Cond.code yX12_isFree cX12_isFree 3 (some .boolean), Cond.fieldLink RX12 87 "ShortEnoughModel" "fixedAs" "[I", Cond.methodLink RX12 474 yX12_cheapestChoice, Cond.instanceMethod yX12_cheapestChoice, Cond.selects RX12 yX12_cheapestChoice yX12_cheapestChoice, Cond.code yX12_cheapestChoice cX12_cheapestChoice 6 (some .int), Cond.methodLink RX12 465 yX12_allChoices, Cond.instanceMethod yX12_allChoices, Cond.selects RX12 yX12_allChoices yX12_allChoices, Cond.code yX12_allChoices cX12_allChoices 3 (some .int), Cond.fieldLink RX12 47 "ShortEnoughModel" "formats" "[I", Cond.methodLink RX12 468 yX12_triesChoice, Cond.instanceMethod yX12_triesChoice, Cond.selects RX12 yX12_triesChoice yX12_triesChoice, Cond.code yX12_triesChoice cX12_triesChoice 4 none, Cond.methodLink RX12 440 yX12_triesHand, Cond.instanceMethod yX12_triesHand, Cond.selects RX12 yX12_triesHand yX12_triesHand, Cond.code yX12_triesHand cX12_triesHand 2 none, Cond.fieldLink RX12 125 "ShortEnoughModel" "hand" "[I", Cond.methodLink RX12 462 yX12_triesGroup, Cond.instanceMethod yX12_triesGroup]
noncomputable def wsX12_take_r3 : List Cond := [Cond.selects RX12 yX12_triesGroup yX12_triesGroup, Cond.code yX12_triesGroup cX12_triesGroup 4 none, Cond.methodLink RX12 449 yX12_costTried, Cond.instanceMethod yX12_costTried, Cond.selects RX12 yX12_costTried yX12_costTried, Cond.code yX12_costTried cX12_costTried 3 (some .int), Cond.fieldLink RX12 84 "ShortEnoughModel" "castCost" "[I", Cond.fieldLink RX12 59 "ShortEnoughModel" "formatCost" "[I", Cond.methodLink RX12 437 yX12_castsTried, Cond.instanceMethod yX12_castsTried, Cond.selects RX12 yX12_castsTried yX12_castsTried, Cond.code yX12_castsTried cX12_castsTried 3 (some .int), Cond.fieldLink RX12 71 "ShortEnoughModel" "first" "[I", Cond.fieldLink RX12 74 "ShortEnoughModel" "second" "[I", Cond.methodLink RX12 433 yX12_isCast, Cond.instanceMethod yX12_isCast, Cond.selects RX12 yX12_isCast yX12_isCast, Cond.code yX12_isCast cX12_isCast 3 (some .boolean), Cond.methodLink RX12 443 yX12_passes, Cond.instanceMethod yX12_passes, Cond.selects RX12 yX12_passes yX12_passes, Cond.code yX12_passes cX12_passes 2 (some .boolean), Cond.fieldLink RX12 138 "ShortEnoughModel" "failsAt" "I", Cond.fieldLink RX12 141 "ShortEnoughModel" "failsWhy" "I"]
noncomputable def wsX12_take_r4 : List Cond := [Cond.fieldLink RX12 135 "ShortEnoughModel" "error" "[J", Cond.fieldLink RX12 56 "ShortEnoughModel" "most" "[I", Cond.fieldLink RX12 90 "ShortEnoughModel" "within" "[I", Cond.methodLink RX12 417 yX12_laysRange, Cond.instanceMethod yX12_laysRange, Cond.selects RX12 yX12_laysRange yX12_laysRange, Cond.code yX12_laysRange cX12_laysRange 18 none, Cond.fieldLink RX12 68 "ShortEnoughModel" "op" "[I", Cond.fieldLink RX12 115 "ShortEnoughModel" "wideBy" "J", Cond.fieldLink RX12 106 "ShortEnoughModel" "least" "[J", Cond.fieldLink RX12 77 "ShortEnoughModel" "firstV" "[J", Cond.fieldLink RX12 109 "ShortEnoughModel" "greatest" "[J", Cond.fieldLink RX12 81 "ShortEnoughModel" "secondV" "[J", Cond.methodLink RX12 399 yX12_lowOf, Cond.instanceMethod yX12_lowOf, Cond.selects RX12 yX12_lowOf yX12_lowOf, Cond.code yX12_lowOf cX12_lowOf 4 (some .long), Cond.methodLink RX12 403 yX12_highOf, Cond.instanceMethod yX12_highOf, Cond.selects RX12 yX12_highOf yX12_highOf, Cond.code yX12_highOf cX12_highOf 4 (some .long), Cond.methodLink RX12 406 yX12_two, Cond.static yX12_two, Cond.code yX12_two cX12_two 7 (some .long)]
noncomputable def wsX12_take_r5 : List Cond := [Cond.methodLink RX12 392 yX12_roundedProduct, Cond.static yX12_roundedProduct, Cond.code yX12_roundedProduct cX12_roundedProduct 6 (some .long), Cond.constantLong RX12 383 (2), Cond.constantLong RX12 388 (1000), Cond.constantLong RX12 390 (2000), Cond.methodLink RX12 385 yX12_floor, Cond.static yX12_floor, Cond.code yX12_floor cX12_floor 6 (some .long), Cond.methodLink RX12 322 yX12_lesser, Cond.static yX12_lesser, Cond.code yX12_lesser cX12_lesser 4 (some .long), Cond.methodLink RX12 396 yX12_greater, Cond.static yX12_greater, Cond.code yX12_greater cX12_greater 4 (some .long), Cond.methodLink RX12 430 yX12_laysError, Cond.instanceMethod yX12_laysError, Cond.selects RX12 yX12_laysError yX12_laysError, Cond.code yX12_laysError cX12_laysError 12 none, Cond.fieldLink RX12 53 "ShortEnoughModel" "step" "[I", Cond.methodLink RX12 427 yX12_castError, Cond.instanceMethod yX12_castError, Cond.selects RX12 yX12_castError yX12_castError, Cond.code yX12_castError cX12_castError 6 (some .long)]
noncomputable def wsX12_take_r6 : List Cond := [Cond.methodLink RX12 410 yX12_amount, Cond.static yX12_amount, Cond.code yX12_amount cX12_amount 2 (some .long), Cond.methodLink RX12 420 yX12_mostOf, Cond.instanceMethod yX12_mostOf, Cond.selects RX12 yX12_mostOf yX12_mostOf, Cond.code yX12_mostOf cX12_mostOf 2 (some .long), Cond.methodLink RX12 487 yX12_halve, Cond.instanceMethod yX12_halve, Cond.selects RX12 yX12_halve yX12_halve, Cond.code yX12_halve cX12_halve 3 (some .boolean), Cond.fieldLink RX12 153 "ShortEnoughModel" "hasChanged" "[Z", Cond.fieldLink RX12 150 "ShortEnoughModel" "tries" "I", Cond.methodLink RX12 446 yX12_isThere, Cond.instanceMethod yX12_isThere, Cond.selects RX12 yX12_isThere yX12_isThere, Cond.code yX12_isThere cX12_isThere 1 (some .boolean), Cond.methodLink RX12 459 yX12_finest, Cond.instanceMethod yX12_finest, Cond.selects RX12 yX12_finest yX12_finest, Cond.code yX12_finest cX12_finest 3 (some .int), Cond.methodLink RX12 477 yX12_keepsTried, Cond.instanceMethod yX12_keepsTried, Cond.selects RX12 yX12_keepsTried yX12_keepsTried]
noncomputable def wsX12_take_r7 : List Cond := [Cond.code yX12_keepsTried cX12_keepsTried 2 none, Cond.fieldLink RX12 147 "ShortEnoughModel" "soFarCost" "I", Cond.methodLink RX12 484 yX12_halvesBy, Cond.instanceMethod yX12_halvesBy, Cond.selects RX12 yX12_halvesBy yX12_halvesBy, Cond.code yX12_halvesBy cX12_halvesBy 7 none, Cond.fieldLink RX12 156 "ShortEnoughModel" "row" "[I", Cond.fieldLink RX12 159 "ShortEnoughModel" "partFrom" "[I", Cond.fieldLink RX12 162 "ShortEnoughModel" "partMany" "[I", Cond.methodLink RX12 480 yX12_isBetter, Cond.instanceMethod yX12_isBetter, Cond.selects RX12 yX12_isBetter yX12_isBetter, Cond.code yX12_isBetter cX12_isBetter 5 (some .boolean), Cond.methodLink RX12 492 yX12_laysSingle, Cond.instanceMethod yX12_laysSingle, Cond.selects RX12 yX12_laysSingle yX12_laysSingle, Cond.code yX12_laysSingle cX12_laysSingle 6 none, Cond.fieldLink RX12 165 "ShortEnoughModel" "singlePass" "I", Cond.fieldLink RX12 168 "ShortEnoughModel" "singleLess" "I", Cond.methodLink RX12 216 yX12_refuses, Cond.instanceMethod yX12_refuses, Cond.selects RX12 yX12_refuses yX12_refuses, Cond.code yX12_refuses cX12_refuses 2 (some .int), Cond.fieldLink RX12 17 "ShortEnoughModel" "refused" "[I"]
noncomputable def wsX12_take_r8 : List Cond := [Cond.methodLink RX12 498 yX12_takesTried, Cond.instanceMethod yX12_takesTried, Cond.selects RX12 yX12_takesTried yX12_takesTried, Cond.code yX12_takesTried cX12_takesTried 2 none]
noncomputable def wsX12_take : List Cond := .code yX12_take cX12_take 2 (some .int) :: ((wsX12_take_r1 ++ (wsX12_take_r2 ++ (wsX12_take_r3 ++ (wsX12_take_r4 ++ (wsX12_take_r5 ++ (wsX12_take_r6 ++ (wsX12_take_r7 ++ wsX12_take_r8))))))) ++ wsX120)
noncomputable def wsX12_laysCouple : List Cond := .code yX12_laysCouple cX12_laysCouple 6 none :: ([Cond.fieldLink RX12 186 "ShortEnoughModel" "fronts" "I", Cond.fieldLink RX12 177 "ShortEnoughModel" "frontCost" "[I", Cond.fieldLink RX12 180 "ShortEnoughModel" "frontError" "[J", Cond.fieldLink RX12 183 "ShortEnoughModel" "frontMany" "[I"] ++ wsX120)
noncomputable def wsX12_laysFront_r1 : List Cond := [Cond.fieldLink RX12 186 "ShortEnoughModel" "fronts" "I", Cond.fieldLink RX12 135 "ShortEnoughModel" "error" "[J", Cond.fieldLink RX12 180 "ShortEnoughModel" "frontError" "[J", Cond.fieldLink RX12 177 "ShortEnoughModel" "frontCost" "[I", Cond.fieldLink RX12 183 "ShortEnoughModel" "frontMany" "[I", Cond.methodLink RX12 465 yX12_allChoices, Cond.instanceMethod yX12_allChoices, Cond.selects RX12 yX12_allChoices yX12_allChoices, Cond.initialized RX12, Cond.code yX12_allChoices cX12_allChoices 3 (some .int), Cond.fieldLink RX12 103 "ShortEnoughModel" "freeMany" "I", Cond.fieldLink RX12 47 "ShortEnoughModel" "formats" "[I", Cond.methodLink RX12 468 yX12_triesChoice, Cond.instanceMethod yX12_triesChoice, Cond.selects RX12 yX12_triesChoice yX12_triesChoice, Cond.code yX12_triesChoice cX12_triesChoice 4 none, Cond.fieldLink RX12 100 "ShortEnoughModel" "free" "[I", Cond.methodLink RX12 440 yX12_triesHand, Cond.instanceMethod yX12_triesHand, Cond.selects RX12 yX12_triesHand yX12_triesHand, Cond.code yX12_triesHand cX12_triesHand 2 none, Cond.fieldLink RX12 62 "ShortEnoughModel" "numbers" "[I", Cond.fieldLink RX12 132 "ShortEnoughModel" "tried" "[I", Cond.fieldLink RX12 125 "ShortEnoughModel" "hand" "[I"]
noncomputable def wsX12_laysFront_r2 : List Cond := [Cond.methodLink RX12 462 yX12_triesGroup, Cond.instanceMethod yX12_triesGroup, Cond.selects RX12 yX12_triesGroup yX12_triesGroup, Cond.code yX12_triesGroup cX12_triesGroup 4 none, Cond.fieldLink RX12 93 "ShortEnoughModel" "groupOf" "[I", Cond.methodLink RX12 443 yX12_passes, Cond.instanceMethod yX12_passes, Cond.selects RX12 yX12_passes yX12_passes, Cond.code yX12_passes cX12_passes 2 (some .boolean), Cond.fieldLink RX12 138 "ShortEnoughModel" "failsAt" "I", Cond.fieldLink RX12 141 "ShortEnoughModel" "failsWhy" "I", Cond.fieldLink RX12 56 "ShortEnoughModel" "most" "[I", Cond.fieldLink RX12 90 "ShortEnoughModel" "within" "[I", Cond.methodLink RX12 417 yX12_laysRange, Cond.instanceMethod yX12_laysRange, Cond.selects RX12 yX12_laysRange yX12_laysRange, Cond.code yX12_laysRange cX12_laysRange 18 none, Cond.fieldLink RX12 68 "ShortEnoughModel" "op" "[I", Cond.fieldLink RX12 112 "ShortEnoughModel" "wideNumber" "I", Cond.fieldLink RX12 115 "ShortEnoughModel" "wideBy" "J", Cond.fieldLink RX12 106 "ShortEnoughModel" "least" "[J", Cond.fieldLink RX12 77 "ShortEnoughModel" "firstV" "[J", Cond.fieldLink RX12 109 "ShortEnoughModel" "greatest" "[J", Cond.fieldLink RX12 81 "ShortEnoughModel" "secondV" "[J"]
noncomputable def wsX12_laysFront_r3 : List Cond := [Cond.methodLink RX12 399 yX12_lowOf, Cond.instanceMethod yX12_lowOf, Cond.selects RX12 yX12_lowOf yX12_lowOf, Cond.code yX12_lowOf cX12_lowOf 4 (some .long), Cond.fieldLink RX12 74 "ShortEnoughModel" "second" "[I", Cond.fieldLink RX12 71 "ShortEnoughModel" "first" "[I", Cond.methodLink RX12 403 yX12_highOf, Cond.instanceMethod yX12_highOf, Cond.selects RX12 yX12_highOf yX12_highOf, Cond.code yX12_highOf cX12_highOf 4 (some .long), Cond.methodLink RX12 406 yX12_two, Cond.static yX12_two, Cond.code yX12_two cX12_two 7 (some .long), Cond.methodLink RX12 392 yX12_roundedProduct, Cond.static yX12_roundedProduct, Cond.code yX12_roundedProduct cX12_roundedProduct 6 (some .long), Cond.constantLong RX12 383 (2), Cond.constantLong RX12 388 (1000), Cond.constantLong RX12 390 (2000), Cond.methodLink RX12 385 yX12_floor, Cond.static yX12_floor, Cond.code yX12_floor cX12_floor 6 (some .long), Cond.methodLink RX12 322 yX12_lesser, Cond.static yX12_lesser]
noncomputable def wsX12_laysFront_r4 : List Cond := [Cond.code yX12_lesser cX12_lesser 4 (some .long), Cond.methodLink RX12 396 yX12_greater, Cond.static yX12_greater, Cond.code yX12_greater cX12_greater 4 (some .long), Cond.methodLink RX12 430 yX12_laysError, Cond.instanceMethod yX12_laysError, Cond.selects RX12 yX12_laysError yX12_laysError, Cond.code yX12_laysError cX12_laysError 12 none, Cond.fieldLink RX12 53 "ShortEnoughModel" "step" "[I", Cond.methodLink RX12 427 yX12_castError, Cond.instanceMethod yX12_castError, Cond.selects RX12 yX12_castError yX12_castError, Cond.code yX12_castError cX12_castError 6 (some .long), Cond.methodLink RX12 410 yX12_amount, Cond.static yX12_amount, Cond.code yX12_amount cX12_amount 2 (some .long), Cond.methodLink RX12 420 yX12_mostOf, Cond.instanceMethod yX12_mostOf, Cond.selects RX12 yX12_mostOf yX12_mostOf, Cond.code yX12_mostOf cX12_mostOf 2 (some .long), Cond.methodLink RX12 449 yX12_costTried, Cond.instanceMethod yX12_costTried, Cond.selects RX12 yX12_costTried yX12_costTried, Cond.code yX12_costTried cX12_costTried 3 (some .int)]
noncomputable def wsX12_laysFront_r5 : List Cond := [Cond.fieldLink RX12 84 "ShortEnoughModel" "castCost" "[I", Cond.fieldLink RX12 59 "ShortEnoughModel" "formatCost" "[I", Cond.methodLink RX12 437 yX12_castsTried, Cond.instanceMethod yX12_castsTried, Cond.selects RX12 yX12_castsTried yX12_castsTried, Cond.code yX12_castsTried cX12_castsTried 3 (some .int), Cond.methodLink RX12 433 yX12_isCast, Cond.instanceMethod yX12_isCast, Cond.selects RX12 yX12_isCast yX12_isCast, Cond.code yX12_isCast cX12_isCast 3 (some .boolean), Cond.methodLink RX12 501 yX12_laysCouple, Cond.instanceMethod yX12_laysCouple, Cond.selects RX12 yX12_laysCouple yX12_laysCouple, Cond.code yX12_laysCouple cX12_laysCouple 6 none]
noncomputable def wsX12_laysFront : List Cond := .code yX12_laysFront cX12_laysFront 5 none :: ((wsX12_laysFront_r1 ++ (wsX12_laysFront_r2 ++ (wsX12_laysFront_r3 ++ (wsX12_laysFront_r4 ++ wsX12_laysFront_r5)))) ++ wsX120)
noncomputable def wsX12_front_r1 : List Cond := [Cond.constantLong RX12 383 (2), Cond.constantLong RX12 381 (-1000000000000000), Cond.fieldLink RX12 186 "ShortEnoughModel" "fronts" "I", Cond.fieldLink RX12 177 "ShortEnoughModel" "frontCost" "[I", Cond.fieldLink RX12 180 "ShortEnoughModel" "frontError" "[J", Cond.fieldLink RX12 183 "ShortEnoughModel" "frontMany" "[I", Cond.methodLink RX12 455 yX12_isAnswer, Cond.instanceMethod yX12_isAnswer, Cond.selects RX12 yX12_isAnswer yX12_isAnswer, Cond.initialized RX12, Cond.code yX12_isAnswer cX12_isAnswer 2 (some .boolean), Cond.fieldLink RX12 90 "ShortEnoughModel" "within" "[I", Cond.methodLink RX12 373 yX12_isNumber, Cond.instanceMethod yX12_isNumber, Cond.selects RX12 yX12_isNumber yX12_isNumber, Cond.code yX12_isNumber cX12_isNumber 2 (some .boolean), Cond.fieldLink RX12 62 "ShortEnoughModel" "numbers" "[I", Cond.methodLink RX12 263 yX12_isIn, Cond.static yX12_isIn, Cond.code yX12_isIn cX12_isIn 6 (some .boolean), Cond.methodLink RX12 471 yX12_canSearch, Cond.instanceMethod yX12_canSearch, Cond.selects RX12 yX12_canSearch yX12_canSearch, Cond.code yX12_canSearch cX12_canSearch 1 (some .boolean)]
noncomputable def wsX12_front_r2 : List Cond := [Cond.fieldLink RX12 112 "ShortEnoughModel" "wideNumber" "I", Cond.fieldLink RX12 128 "ShortEnoughModel" "hasHand" "Z", Cond.fieldLink RX12 103 "ShortEnoughModel" "freeMany" "I", Cond.methodLink RX12 358 yX12_laysFree, Cond.instanceMethod yX12_laysFree, Cond.selects RX12 yX12_laysFree yX12_laysFree, Cond.code yX12_laysFree cX12_laysFree 2 none, Cond.fieldLink RX12 93 "ShortEnoughModel" "groupOf" "[I", Cond.fieldLink RX12 100 "ShortEnoughModel" "free" "[I", Cond.methodLink RX12 355 yX12_isFree, Cond.instanceMethod yX12_isFree, Cond.selects RX12 yX12_isFree yX12_isFree, Cond.code yX12_isFree cX12_isFree 3 (some .boolean), Cond.fieldLink RX12 87 "ShortEnoughModel" "fixedAs" "[I", Cond.methodLink RX12 505 yX12_laysFront, Cond.instanceMethod yX12_laysFront, Cond.selects RX12 yX12_laysFront yX12_laysFront, Cond.code yX12_laysFront cX12_laysFront 5 none, Cond.fieldLink RX12 135 "ShortEnoughModel" "error" "[J", Cond.methodLink RX12 465 yX12_allChoices, Cond.instanceMethod yX12_allChoices, Cond.selects RX12 yX12_allChoices yX12_allChoices, Cond.code yX12_allChoices cX12_allChoices 3 (some .int), Cond.fieldLink RX12 47 "ShortEnoughModel" "formats" "[I"]
noncomputable def wsX12_front_r3 : List Cond := [Cond.methodLink RX12 468 yX12_triesChoice, Cond.instanceMethod yX12_triesChoice, Cond.selects RX12 yX12_triesChoice yX12_triesChoice, Cond.code yX12_triesChoice cX12_triesChoice 4 none, Cond.methodLink RX12 440 yX12_triesHand, Cond.instanceMethod yX12_triesHand, Cond.selects RX12 yX12_triesHand yX12_triesHand, Cond.code yX12_triesHand cX12_triesHand 2 none, Cond.fieldLink RX12 132 "ShortEnoughModel" "tried" "[I", Cond.fieldLink RX12 125 "ShortEnoughModel" "hand" "[I", Cond.methodLink RX12 462 yX12_triesGroup, Cond.instanceMethod yX12_triesGroup, Cond.selects RX12 yX12_triesGroup yX12_triesGroup, Cond.code yX12_triesGroup cX12_triesGroup 4 none, Cond.methodLink RX12 443 yX12_passes, Cond.instanceMethod yX12_passes, Cond.selects RX12 yX12_passes yX12_passes, Cond.code yX12_passes cX12_passes 2 (some .boolean), Cond.fieldLink RX12 138 "ShortEnoughModel" "failsAt" "I", Cond.fieldLink RX12 141 "ShortEnoughModel" "failsWhy" "I", Cond.fieldLink RX12 56 "ShortEnoughModel" "most" "[I", Cond.methodLink RX12 417 yX12_laysRange, Cond.instanceMethod yX12_laysRange, Cond.selects RX12 yX12_laysRange yX12_laysRange]
noncomputable def wsX12_front_r4 : List Cond := [Cond.code yX12_laysRange cX12_laysRange 18 none, Cond.fieldLink RX12 68 "ShortEnoughModel" "op" "[I", Cond.fieldLink RX12 115 "ShortEnoughModel" "wideBy" "J", Cond.fieldLink RX12 106 "ShortEnoughModel" "least" "[J", Cond.fieldLink RX12 77 "ShortEnoughModel" "firstV" "[J", Cond.fieldLink RX12 109 "ShortEnoughModel" "greatest" "[J", Cond.fieldLink RX12 81 "ShortEnoughModel" "secondV" "[J", Cond.methodLink RX12 399 yX12_lowOf, Cond.instanceMethod yX12_lowOf, Cond.selects RX12 yX12_lowOf yX12_lowOf, Cond.code yX12_lowOf cX12_lowOf 4 (some .long), Cond.fieldLink RX12 74 "ShortEnoughModel" "second" "[I", Cond.fieldLink RX12 71 "ShortEnoughModel" "first" "[I", Cond.methodLink RX12 403 yX12_highOf, Cond.instanceMethod yX12_highOf, Cond.selects RX12 yX12_highOf yX12_highOf, Cond.code yX12_highOf cX12_highOf 4 (some .long), Cond.methodLink RX12 406 yX12_two, Cond.static yX12_two, Cond.code yX12_two cX12_two 7 (some .long), Cond.methodLink RX12 392 yX12_roundedProduct, Cond.static yX12_roundedProduct, Cond.code yX12_roundedProduct cX12_roundedProduct 6 (some .long), Cond.constantLong RX12 388 (1000)]
noncomputable def wsX12_front_r5 : List Cond := [Cond.constantLong RX12 390 (2000), Cond.methodLink RX12 385 yX12_floor, Cond.static yX12_floor, Cond.code yX12_floor cX12_floor 6 (some .long), Cond.methodLink RX12 322 yX12_lesser, Cond.static yX12_lesser, Cond.code yX12_lesser cX12_lesser 4 (some .long), Cond.methodLink RX12 396 yX12_greater, Cond.static yX12_greater, Cond.code yX12_greater cX12_greater 4 (some .long), Cond.methodLink RX12 430 yX12_laysError, Cond.instanceMethod yX12_laysError, Cond.selects RX12 yX12_laysError yX12_laysError, Cond.code yX12_laysError cX12_laysError 12 none, Cond.fieldLink RX12 53 "ShortEnoughModel" "step" "[I", Cond.methodLink RX12 427 yX12_castError, Cond.instanceMethod yX12_castError, Cond.selects RX12 yX12_castError yX12_castError, Cond.code yX12_castError cX12_castError 6 (some .long), Cond.methodLink RX12 410 yX12_amount, Cond.static yX12_amount, Cond.code yX12_amount cX12_amount 2 (some .long), Cond.methodLink RX12 420 yX12_mostOf, Cond.instanceMethod yX12_mostOf]
noncomputable def wsX12_front_r6 : List Cond := [Cond.selects RX12 yX12_mostOf yX12_mostOf, Cond.code yX12_mostOf cX12_mostOf 2 (some .long), Cond.methodLink RX12 449 yX12_costTried, Cond.instanceMethod yX12_costTried, Cond.selects RX12 yX12_costTried yX12_costTried, Cond.code yX12_costTried cX12_costTried 3 (some .int), Cond.fieldLink RX12 84 "ShortEnoughModel" "castCost" "[I", Cond.fieldLink RX12 59 "ShortEnoughModel" "formatCost" "[I", Cond.methodLink RX12 437 yX12_castsTried, Cond.instanceMethod yX12_castsTried, Cond.selects RX12 yX12_castsTried yX12_castsTried, Cond.code yX12_castsTried cX12_castsTried 3 (some .int), Cond.methodLink RX12 433 yX12_isCast, Cond.instanceMethod yX12_isCast, Cond.selects RX12 yX12_isCast yX12_isCast, Cond.code yX12_isCast cX12_isCast 3 (some .boolean), Cond.methodLink RX12 501 yX12_laysCouple, Cond.instanceMethod yX12_laysCouple, Cond.selects RX12 yX12_laysCouple yX12_laysCouple, Cond.code yX12_laysCouple cX12_laysCouple 6 none]
noncomputable def wsX12_front : List Cond := .code yX12_front cX12_front 4 (some .long) :: ((wsX12_front_r1 ++ (wsX12_front_r2 ++ (wsX12_front_r3 ++ (wsX12_front_r4 ++ (wsX12_front_r5 ++ wsX12_front_r6))))) ++ wsX120)
noncomputable def wsX12_least_r1 : List Cond := [Cond.constantLong RX12 381 (-1000000000000000), Cond.fieldLink RX12 135 "ShortEnoughModel" "error" "[J", Cond.methodLink RX12 455 yX12_isAnswer, Cond.instanceMethod yX12_isAnswer, Cond.selects RX12 yX12_isAnswer yX12_isAnswer, Cond.initialized RX12, Cond.code yX12_isAnswer cX12_isAnswer 2 (some .boolean), Cond.fieldLink RX12 90 "ShortEnoughModel" "within" "[I", Cond.methodLink RX12 373 yX12_isNumber, Cond.instanceMethod yX12_isNumber, Cond.selects RX12 yX12_isNumber yX12_isNumber, Cond.code yX12_isNumber cX12_isNumber 2 (some .boolean), Cond.fieldLink RX12 62 "ShortEnoughModel" "numbers" "[I", Cond.methodLink RX12 263 yX12_isIn, Cond.static yX12_isIn, Cond.code yX12_isIn cX12_isIn 6 (some .boolean), Cond.methodLink RX12 471 yX12_canSearch, Cond.instanceMethod yX12_canSearch, Cond.selects RX12 yX12_canSearch yX12_canSearch, Cond.code yX12_canSearch cX12_canSearch 1 (some .boolean), Cond.fieldLink RX12 112 "ShortEnoughModel" "wideNumber" "I", Cond.fieldLink RX12 128 "ShortEnoughModel" "hasHand" "Z", Cond.fieldLink RX12 103 "ShortEnoughModel" "freeMany" "I", Cond.methodLink RX12 358 yX12_laysFree]
noncomputable def wsX12_least_r2 : List Cond := [Cond.instanceMethod yX12_laysFree, Cond.selects RX12 yX12_laysFree yX12_laysFree, Cond.code yX12_laysFree cX12_laysFree 2 none, Cond.fieldLink RX12 93 "ShortEnoughModel" "groupOf" "[I", Cond.fieldLink RX12 100 "ShortEnoughModel" "free" "[I", Cond.methodLink RX12 355 yX12_isFree, Cond.instanceMethod yX12_isFree, Cond.selects RX12 yX12_isFree yX12_isFree, Cond.code yX12_isFree cX12_isFree 3 (some .boolean), Cond.fieldLink RX12 87 "ShortEnoughModel" "fixedAs" "[I", Cond.methodLink RX12 465 yX12_allChoices, Cond.instanceMethod yX12_allChoices, Cond.selects RX12 yX12_allChoices yX12_allChoices, Cond.code yX12_allChoices cX12_allChoices 3 (some .int), Cond.fieldLink RX12 47 "ShortEnoughModel" "formats" "[I", Cond.methodLink RX12 468 yX12_triesChoice, Cond.instanceMethod yX12_triesChoice, Cond.selects RX12 yX12_triesChoice yX12_triesChoice, Cond.code yX12_triesChoice cX12_triesChoice 4 none, Cond.methodLink RX12 440 yX12_triesHand, Cond.instanceMethod yX12_triesHand, Cond.selects RX12 yX12_triesHand yX12_triesHand, Cond.code yX12_triesHand cX12_triesHand 2 none, Cond.fieldLink RX12 132 "ShortEnoughModel" "tried" "[I"]
noncomputable def wsX12_least_r3 : List Cond := [Cond.fieldLink RX12 125 "ShortEnoughModel" "hand" "[I", Cond.methodLink RX12 462 yX12_triesGroup, Cond.instanceMethod yX12_triesGroup, Cond.selects RX12 yX12_triesGroup yX12_triesGroup, Cond.code yX12_triesGroup cX12_triesGroup 4 none, Cond.methodLink RX12 449 yX12_costTried, Cond.instanceMethod yX12_costTried, Cond.selects RX12 yX12_costTried yX12_costTried, Cond.code yX12_costTried cX12_costTried 3 (some .int), Cond.fieldLink RX12 84 "ShortEnoughModel" "castCost" "[I", Cond.fieldLink RX12 59 "ShortEnoughModel" "formatCost" "[I", Cond.methodLink RX12 437 yX12_castsTried, Cond.instanceMethod yX12_castsTried, Cond.selects RX12 yX12_castsTried yX12_castsTried, Cond.code yX12_castsTried cX12_castsTried 3 (some .int), Cond.fieldLink RX12 71 "ShortEnoughModel" "first" "[I", Cond.fieldLink RX12 74 "ShortEnoughModel" "second" "[I", Cond.methodLink RX12 433 yX12_isCast, Cond.instanceMethod yX12_isCast, Cond.selects RX12 yX12_isCast yX12_isCast, Cond.code yX12_isCast cX12_isCast 3 (some .boolean), Cond.methodLink RX12 443 yX12_passes, Cond.instanceMethod yX12_passes, Cond.selects RX12 yX12_passes yX12_passes]
noncomputable def wsX12_least_r4 : List Cond := [Cond.code yX12_passes cX12_passes 2 (some .boolean), Cond.fieldLink RX12 138 "ShortEnoughModel" "failsAt" "I", Cond.fieldLink RX12 141 "ShortEnoughModel" "failsWhy" "I", Cond.fieldLink RX12 56 "ShortEnoughModel" "most" "[I", Cond.methodLink RX12 417 yX12_laysRange, Cond.instanceMethod yX12_laysRange, Cond.selects RX12 yX12_laysRange yX12_laysRange, Cond.code yX12_laysRange cX12_laysRange 18 none, Cond.fieldLink RX12 68 "ShortEnoughModel" "op" "[I", Cond.fieldLink RX12 115 "ShortEnoughModel" "wideBy" "J", Cond.fieldLink RX12 106 "ShortEnoughModel" "least" "[J", Cond.fieldLink RX12 77 "ShortEnoughModel" "firstV" "[J", Cond.fieldLink RX12 109 "ShortEnoughModel" "greatest" "[J", Cond.fieldLink RX12 81 "ShortEnoughModel" "secondV" "[J", Cond.methodLink RX12 399 yX12_lowOf, Cond.instanceMethod yX12_lowOf, Cond.selects RX12 yX12_lowOf yX12_lowOf, Cond.code yX12_lowOf cX12_lowOf 4 (some .long), Cond.methodLink RX12 403 yX12_highOf, Cond.instanceMethod yX12_highOf, Cond.selects RX12 yX12_highOf yX12_highOf, Cond.code yX12_highOf cX12_highOf 4 (some .long), Cond.methodLink RX12 406 yX12_two, Cond.static yX12_two]
noncomputable def wsX12_least_r5 : List Cond := [Cond.code yX12_two cX12_two 7 (some .long), Cond.methodLink RX12 392 yX12_roundedProduct, Cond.static yX12_roundedProduct, Cond.code yX12_roundedProduct cX12_roundedProduct 6 (some .long), Cond.constantLong RX12 383 (2), Cond.constantLong RX12 388 (1000), Cond.constantLong RX12 390 (2000), Cond.methodLink RX12 385 yX12_floor, Cond.static yX12_floor, Cond.code yX12_floor cX12_floor 6 (some .long), Cond.methodLink RX12 322 yX12_lesser, Cond.static yX12_lesser, Cond.code yX12_lesser cX12_lesser 4 (some .long), Cond.methodLink RX12 396 yX12_greater, Cond.static yX12_greater, Cond.code yX12_greater cX12_greater 4 (some .long), Cond.methodLink RX12 430 yX12_laysError, Cond.instanceMethod yX12_laysError, Cond.selects RX12 yX12_laysError yX12_laysError, Cond.code yX12_laysError cX12_laysError 12 none, Cond.fieldLink RX12 53 "ShortEnoughModel" "step" "[I", Cond.methodLink RX12 427 yX12_castError, Cond.instanceMethod yX12_castError, Cond.selects RX12 yX12_castError yX12_castError]
noncomputable def wsX12_least_r6 : List Cond := [Cond.code yX12_castError cX12_castError 6 (some .long), Cond.methodLink RX12 410 yX12_amount, Cond.static yX12_amount, Cond.code yX12_amount cX12_amount 2 (some .long), Cond.methodLink RX12 420 yX12_mostOf, Cond.instanceMethod yX12_mostOf, Cond.selects RX12 yX12_mostOf yX12_mostOf, Cond.code yX12_mostOf cX12_mostOf 2 (some .long)]
noncomputable def wsX12_least : List Cond := .code yX12_least cX12_least 7 (some .long) :: ((wsX12_least_r1 ++ (wsX12_least_r2 ++ (wsX12_least_r3 ++ (wsX12_least_r4 ++ (wsX12_least_r5 ++ wsX12_least_r6))))) ++ wsX120)
noncomputable def wsX12_byteOf : List Cond := .code yX12_byteOf cX12_byteOf 3 (some .int) :: ([Cond.constantLong RX12 508 (255)])
noncomputable def wsX12_certificate_r1 : List Cond := [Cond.fieldLink RX12 62 "ShortEnoughModel" "numbers" "[I", Cond.fieldLink RX12 125 "ShortEnoughModel" "hand" "[I", Cond.fieldLink RX12 106 "ShortEnoughModel" "least" "[J", Cond.fieldLink RX12 109 "ShortEnoughModel" "greatest" "[J", Cond.fieldLink RX12 135 "ShortEnoughModel" "error" "[J", Cond.methodLink RX12 452 yX12_handPasses, Cond.instanceMethod yX12_handPasses, Cond.selects RX12 yX12_handPasses yX12_handPasses, Cond.initialized RX12, Cond.code yX12_handPasses cX12_handPasses 1 (some .boolean), Cond.fieldLink RX12 112 "ShortEnoughModel" "wideNumber" "I", Cond.fieldLink RX12 128 "ShortEnoughModel" "hasHand" "Z", Cond.methodLink RX12 440 yX12_triesHand, Cond.instanceMethod yX12_triesHand, Cond.selects RX12 yX12_triesHand yX12_triesHand, Cond.code yX12_triesHand cX12_triesHand 2 none, Cond.fieldLink RX12 132 "ShortEnoughModel" "tried" "[I", Cond.methodLink RX12 443 yX12_passes, Cond.instanceMethod yX12_passes, Cond.selects RX12 yX12_passes yX12_passes, Cond.code yX12_passes cX12_passes 2 (some .boolean), Cond.fieldLink RX12 138 "ShortEnoughModel" "failsAt" "I", Cond.fieldLink RX12 141 "ShortEnoughModel" "failsWhy" "I", Cond.fieldLink RX12 56 "ShortEnoughModel" "most" "[I"]
noncomputable def wsX12_certificate_r2 : List Cond := [Cond.fieldLink RX12 90 "ShortEnoughModel" "within" "[I", Cond.methodLink RX12 417 yX12_laysRange, Cond.instanceMethod yX12_laysRange, Cond.selects RX12 yX12_laysRange yX12_laysRange, Cond.code yX12_laysRange cX12_laysRange 18 none, Cond.fieldLink RX12 68 "ShortEnoughModel" "op" "[I", Cond.fieldLink RX12 115 "ShortEnoughModel" "wideBy" "J", Cond.fieldLink RX12 77 "ShortEnoughModel" "firstV" "[J", Cond.fieldLink RX12 81 "ShortEnoughModel" "secondV" "[J", Cond.methodLink RX12 399 yX12_lowOf, Cond.instanceMethod yX12_lowOf, Cond.selects RX12 yX12_lowOf yX12_lowOf, Cond.code yX12_lowOf cX12_lowOf 4 (some .long), Cond.fieldLink RX12 74 "ShortEnoughModel" "second" "[I", Cond.fieldLink RX12 71 "ShortEnoughModel" "first" "[I", Cond.methodLink RX12 403 yX12_highOf, Cond.instanceMethod yX12_highOf, Cond.selects RX12 yX12_highOf yX12_highOf, Cond.code yX12_highOf cX12_highOf 4 (some .long), Cond.methodLink RX12 406 yX12_two, Cond.static yX12_two, Cond.code yX12_two cX12_two 7 (some .long), Cond.methodLink RX12 392 yX12_roundedProduct, Cond.static yX12_roundedProduct]
noncomputable def wsX12_certificate_r3 : List Cond := [Cond.code yX12_roundedProduct cX12_roundedProduct 6 (some .long), Cond.constantLong RX12 383 (2), Cond.constantLong RX12 388 (1000), Cond.constantLong RX12 390 (2000), Cond.methodLink RX12 385 yX12_floor, Cond.static yX12_floor, Cond.code yX12_floor cX12_floor 6 (some .long), Cond.methodLink RX12 322 yX12_lesser, Cond.static yX12_lesser, Cond.code yX12_lesser cX12_lesser 4 (some .long), Cond.methodLink RX12 396 yX12_greater, Cond.static yX12_greater, Cond.code yX12_greater cX12_greater 4 (some .long), Cond.methodLink RX12 430 yX12_laysError, Cond.instanceMethod yX12_laysError, Cond.selects RX12 yX12_laysError yX12_laysError, Cond.code yX12_laysError cX12_laysError 12 none, Cond.fieldLink RX12 53 "ShortEnoughModel" "step" "[I", Cond.methodLink RX12 427 yX12_castError, Cond.instanceMethod yX12_castError, Cond.selects RX12 yX12_castError yX12_castError, Cond.code yX12_castError cX12_castError 6 (some .long), Cond.methodLink RX12 410 yX12_amount, Cond.static yX12_amount]
noncomputable def wsX12_certificate_r4 : List Cond := [Cond.code yX12_amount cX12_amount 2 (some .long), Cond.methodLink RX12 420 yX12_mostOf, Cond.instanceMethod yX12_mostOf, Cond.selects RX12 yX12_mostOf yX12_mostOf, Cond.code yX12_mostOf cX12_mostOf 2 (some .long), Cond.methodLink RX12 263 yX12_isIn, Cond.static yX12_isIn, Cond.code yX12_isIn cX12_isIn 6 (some .boolean), Cond.methodLink RX12 510 yX12_byteOf, Cond.static yX12_byteOf, Cond.code yX12_byteOf cX12_byteOf 3 (some .int), Cond.constantLong RX12 508 (255)]
noncomputable def wsX12_certificate : List Cond := .code yX12_certificate cX12_certificate 4 (some .int) :: ((wsX12_certificate_r1 ++ (wsX12_certificate_r2 ++ (wsX12_certificate_r3 ++ wsX12_certificate_r4))) ++ wsX120)
noncomputable def wsX12_readsLong : List Cond := .code yX12_readsLong cX12_readsLong 5 (some .long) :: ([Cond.fieldLink RX12 7 "ShortEnoughModel" "tape" "[I", Cond.constantLong RX12 514 (1000000000000), Cond.constantLong RX12 516 (-1000000000000)] ++ wsX120)
noncomputable def wsX12_isFormatSaid : List Cond := .code yX12_isFormatSaid cX12_isFormatSaid 3 (some .boolean) :: ([Cond.fieldLink RX12 195 "ShortEnoughModel" "saysFormat" "[I", Cond.fieldLink RX12 62 "ShortEnoughModel" "numbers" "[I", Cond.fieldLink RX12 93 "ShortEnoughModel" "groupOf" "[I", Cond.fieldLink RX12 87 "ShortEnoughModel" "fixedAs" "[I", Cond.methodLink RX12 370 yX12_isFormat, Cond.instanceMethod yX12_isFormat, Cond.selects RX12 yX12_isFormat yX12_isFormat, Cond.initialized RX12, Cond.code yX12_isFormat cX12_isFormat 2 (some .boolean), Cond.fieldLink RX12 47 "ShortEnoughModel" "formats" "[I", Cond.methodLink RX12 263 yX12_isIn, Cond.static yX12_isIn, Cond.code yX12_isIn cX12_isIn 6 (some .boolean)] ++ wsX120)
noncomputable def wsX12_breaks_r1 : List Cond := [Cond.fieldLink RX12 132 "ShortEnoughModel" "tried" "[I", Cond.fieldLink RX12 195 "ShortEnoughModel" "saysFormat" "[I", Cond.fieldLink RX12 198 "ShortEnoughModel" "saysLeast" "[J", Cond.fieldLink RX12 106 "ShortEnoughModel" "least" "[J", Cond.fieldLink RX12 201 "ShortEnoughModel" "saysGreatest" "[J", Cond.fieldLink RX12 109 "ShortEnoughModel" "greatest" "[J", Cond.fieldLink RX12 204 "ShortEnoughModel" "saysError" "[J", Cond.fieldLink RX12 135 "ShortEnoughModel" "error" "[J", Cond.fieldLink RX12 56 "ShortEnoughModel" "most" "[I", Cond.fieldLink RX12 90 "ShortEnoughModel" "within" "[I", Cond.methodLink RX12 518 yX12_isFormatSaid, Cond.instanceMethod yX12_isFormatSaid, Cond.selects RX12 yX12_isFormatSaid yX12_isFormatSaid, Cond.initialized RX12, Cond.code yX12_isFormatSaid cX12_isFormatSaid 3 (some .boolean), Cond.fieldLink RX12 62 "ShortEnoughModel" "numbers" "[I", Cond.fieldLink RX12 93 "ShortEnoughModel" "groupOf" "[I", Cond.fieldLink RX12 87 "ShortEnoughModel" "fixedAs" "[I", Cond.methodLink RX12 370 yX12_isFormat, Cond.instanceMethod yX12_isFormat, Cond.selects RX12 yX12_isFormat yX12_isFormat, Cond.code yX12_isFormat cX12_isFormat 2 (some .boolean), Cond.fieldLink RX12 47 "ShortEnoughModel" "formats" "[I", Cond.methodLink RX12 263 yX12_isIn]
noncomputable def wsX12_breaks_r2 : List Cond := [Cond.static yX12_isIn, Cond.code yX12_isIn cX12_isIn 6 (some .boolean), Cond.methodLink RX12 417 yX12_laysRange, Cond.instanceMethod yX12_laysRange, Cond.selects RX12 yX12_laysRange yX12_laysRange, Cond.code yX12_laysRange cX12_laysRange 18 none, Cond.fieldLink RX12 68 "ShortEnoughModel" "op" "[I", Cond.fieldLink RX12 112 "ShortEnoughModel" "wideNumber" "I", Cond.fieldLink RX12 115 "ShortEnoughModel" "wideBy" "J", Cond.fieldLink RX12 77 "ShortEnoughModel" "firstV" "[J", Cond.fieldLink RX12 81 "ShortEnoughModel" "secondV" "[J", Cond.methodLink RX12 399 yX12_lowOf, Cond.instanceMethod yX12_lowOf, Cond.selects RX12 yX12_lowOf yX12_lowOf, Cond.code yX12_lowOf cX12_lowOf 4 (some .long), Cond.fieldLink RX12 74 "ShortEnoughModel" "second" "[I", Cond.fieldLink RX12 71 "ShortEnoughModel" "first" "[I", Cond.methodLink RX12 403 yX12_highOf, Cond.instanceMethod yX12_highOf, Cond.selects RX12 yX12_highOf yX12_highOf, Cond.code yX12_highOf cX12_highOf 4 (some .long), Cond.methodLink RX12 406 yX12_two, Cond.static yX12_two, Cond.code yX12_two cX12_two 7 (some .long)]
noncomputable def wsX12_breaks_r3 : List Cond := [Cond.methodLink RX12 392 yX12_roundedProduct, Cond.static yX12_roundedProduct, Cond.code yX12_roundedProduct cX12_roundedProduct 6 (some .long), Cond.constantLong RX12 383 (2), Cond.constantLong RX12 388 (1000), Cond.constantLong RX12 390 (2000), Cond.methodLink RX12 385 yX12_floor, Cond.static yX12_floor, Cond.code yX12_floor cX12_floor 6 (some .long), Cond.methodLink RX12 322 yX12_lesser, Cond.static yX12_lesser, Cond.code yX12_lesser cX12_lesser 4 (some .long), Cond.methodLink RX12 396 yX12_greater, Cond.static yX12_greater, Cond.code yX12_greater cX12_greater 4 (some .long), Cond.methodLink RX12 430 yX12_laysError, Cond.instanceMethod yX12_laysError, Cond.selects RX12 yX12_laysError yX12_laysError, Cond.code yX12_laysError cX12_laysError 12 none, Cond.fieldLink RX12 53 "ShortEnoughModel" "step" "[I", Cond.methodLink RX12 427 yX12_castError, Cond.instanceMethod yX12_castError, Cond.selects RX12 yX12_castError yX12_castError, Cond.code yX12_castError cX12_castError 6 (some .long)]
noncomputable def wsX12_breaks_r4 : List Cond := [Cond.methodLink RX12 410 yX12_amount, Cond.static yX12_amount, Cond.code yX12_amount cX12_amount 2 (some .long), Cond.methodLink RX12 420 yX12_mostOf, Cond.instanceMethod yX12_mostOf, Cond.selects RX12 yX12_mostOf yX12_mostOf, Cond.code yX12_mostOf cX12_mostOf 2 (some .long)]
noncomputable def wsX12_breaks : List Cond := .code yX12_breaks cX12_breaks 2 (some .int) :: ((wsX12_breaks_r1 ++ (wsX12_breaks_r2 ++ (wsX12_breaks_r3 ++ wsX12_breaks_r4))) ++ wsX120)
noncomputable def wsX12_check_r1 : List Cond := [Cond.fieldLink RX12 13 "ShortEnoughModel" "taped" "I", Cond.fieldLink RX12 189 "ShortEnoughModel" "brokenAt" "I", Cond.fieldLink RX12 192 "ShortEnoughModel" "brokenWhy" "I", Cond.fieldLink RX12 62 "ShortEnoughModel" "numbers" "[I", Cond.fieldLink RX12 112 "ShortEnoughModel" "wideNumber" "I", Cond.fieldLink RX12 195 "ShortEnoughModel" "saysFormat" "[I", Cond.fieldLink RX12 7 "ShortEnoughModel" "tape" "[I", Cond.fieldLink RX12 198 "ShortEnoughModel" "saysLeast" "[J", Cond.fieldLink RX12 201 "ShortEnoughModel" "saysGreatest" "[J", Cond.fieldLink RX12 204 "ShortEnoughModel" "saysError" "[J", Cond.methodLink RX12 224 yX12_isRefused, Cond.instanceMethod yX12_isRefused, Cond.selects RX12 yX12_isRefused yX12_isRefused, Cond.initialized RX12, Cond.code yX12_isRefused cX12_isRefused 2 (some .boolean), Cond.fieldLink RX12 17 "ShortEnoughModel" "refused" "[I", Cond.methodLink RX12 521 yX12_readsLong, Cond.instanceMethod yX12_readsLong, Cond.selects RX12 yX12_readsLong yX12_readsLong, Cond.code yX12_readsLong cX12_readsLong 5 (some .long), Cond.constantLong RX12 514 (1000000000000), Cond.constantLong RX12 516 (-1000000000000), Cond.methodLink RX12 524 yX12_breaks, Cond.instanceMethod yX12_breaks]
noncomputable def wsX12_check_r2 : List Cond := [Cond.selects RX12 yX12_breaks yX12_breaks, Cond.code yX12_breaks cX12_breaks 2 (some .int), Cond.fieldLink RX12 132 "ShortEnoughModel" "tried" "[I", Cond.fieldLink RX12 106 "ShortEnoughModel" "least" "[J", Cond.fieldLink RX12 109 "ShortEnoughModel" "greatest" "[J", Cond.fieldLink RX12 135 "ShortEnoughModel" "error" "[J", Cond.fieldLink RX12 56 "ShortEnoughModel" "most" "[I", Cond.fieldLink RX12 90 "ShortEnoughModel" "within" "[I", Cond.methodLink RX12 518 yX12_isFormatSaid, Cond.instanceMethod yX12_isFormatSaid, Cond.selects RX12 yX12_isFormatSaid yX12_isFormatSaid, Cond.code yX12_isFormatSaid cX12_isFormatSaid 3 (some .boolean), Cond.fieldLink RX12 93 "ShortEnoughModel" "groupOf" "[I", Cond.fieldLink RX12 87 "ShortEnoughModel" "fixedAs" "[I", Cond.methodLink RX12 370 yX12_isFormat, Cond.instanceMethod yX12_isFormat, Cond.selects RX12 yX12_isFormat yX12_isFormat, Cond.code yX12_isFormat cX12_isFormat 2 (some .boolean), Cond.fieldLink RX12 47 "ShortEnoughModel" "formats" "[I", Cond.methodLink RX12 263 yX12_isIn, Cond.static yX12_isIn, Cond.code yX12_isIn cX12_isIn 6 (some .boolean), Cond.methodLink RX12 417 yX12_laysRange, Cond.instanceMethod yX12_laysRange]
noncomputable def wsX12_check_r3 : List Cond := [Cond.selects RX12 yX12_laysRange yX12_laysRange, Cond.code yX12_laysRange cX12_laysRange 18 none, Cond.fieldLink RX12 68 "ShortEnoughModel" "op" "[I", Cond.fieldLink RX12 115 "ShortEnoughModel" "wideBy" "J", Cond.fieldLink RX12 77 "ShortEnoughModel" "firstV" "[J", Cond.fieldLink RX12 81 "ShortEnoughModel" "secondV" "[J", Cond.methodLink RX12 399 yX12_lowOf, Cond.instanceMethod yX12_lowOf, Cond.selects RX12 yX12_lowOf yX12_lowOf, Cond.code yX12_lowOf cX12_lowOf 4 (some .long), Cond.fieldLink RX12 74 "ShortEnoughModel" "second" "[I", Cond.fieldLink RX12 71 "ShortEnoughModel" "first" "[I", Cond.methodLink RX12 403 yX12_highOf, Cond.instanceMethod yX12_highOf, Cond.selects RX12 yX12_highOf yX12_highOf, Cond.code yX12_highOf cX12_highOf 4 (some .long), Cond.methodLink RX12 406 yX12_two, Cond.static yX12_two, Cond.code yX12_two cX12_two 7 (some .long), Cond.methodLink RX12 392 yX12_roundedProduct, Cond.static yX12_roundedProduct, Cond.code yX12_roundedProduct cX12_roundedProduct 6 (some .long), Cond.constantLong RX12 383 (2), Cond.constantLong RX12 388 (1000)]
noncomputable def wsX12_check_r4 : List Cond := [Cond.constantLong RX12 390 (2000), Cond.methodLink RX12 385 yX12_floor, Cond.static yX12_floor, Cond.code yX12_floor cX12_floor 6 (some .long), Cond.methodLink RX12 322 yX12_lesser, Cond.static yX12_lesser, Cond.code yX12_lesser cX12_lesser 4 (some .long), Cond.methodLink RX12 396 yX12_greater, Cond.static yX12_greater, Cond.code yX12_greater cX12_greater 4 (some .long), Cond.methodLink RX12 430 yX12_laysError, Cond.instanceMethod yX12_laysError, Cond.selects RX12 yX12_laysError yX12_laysError, Cond.code yX12_laysError cX12_laysError 12 none, Cond.fieldLink RX12 53 "ShortEnoughModel" "step" "[I", Cond.methodLink RX12 427 yX12_castError, Cond.instanceMethod yX12_castError, Cond.selects RX12 yX12_castError yX12_castError, Cond.code yX12_castError cX12_castError 6 (some .long), Cond.methodLink RX12 410 yX12_amount, Cond.static yX12_amount, Cond.code yX12_amount cX12_amount 2 (some .long), Cond.methodLink RX12 420 yX12_mostOf, Cond.instanceMethod yX12_mostOf]
noncomputable def wsX12_check_r5 : List Cond := [Cond.selects RX12 yX12_mostOf yX12_mostOf, Cond.code yX12_mostOf cX12_mostOf 2 (some .long)]
noncomputable def wsX12_check : List Cond := .code yX12_check cX12_check 4 (some .boolean) :: ((wsX12_check_r1 ++ (wsX12_check_r2 ++ (wsX12_check_r3 ++ (wsX12_check_r4 ++ wsX12_check_r5)))) ++ wsX120)
noncomputable def wsX12_broken : List Cond := .code yX12_broken cX12_broken 2 (some .int) :: ([Cond.fieldLink RX12 189 "ShortEnoughModel" "brokenAt" "I", Cond.fieldLink RX12 192 "ShortEnoughModel" "brokenWhy" "I"] ++ wsX120)
noncomputable def wsX12_draw : List Cond := .code yX12_draw cX12_draw 5 (some .long) :: ([Cond.constantLong RX12 527 (1103515245), Cond.fieldLink RX12 207 "ShortEnoughModel" "seedNow" "I", Cond.constantLong RX12 529 (12345), Cond.constantLong RX12 531 (2147483648)] ++ wsX120)
noncomputable def wsX12_exactOf : List Cond := .code yX12_exactOf cX12_exactOf 4 (some .long) :: ([Cond.fieldLink RX12 74 "ShortEnoughModel" "second" "[I", Cond.fieldLink RX12 71 "ShortEnoughModel" "first" "[I", Cond.fieldLink RX12 81 "ShortEnoughModel" "secondV" "[J", Cond.fieldLink RX12 77 "ShortEnoughModel" "firstV" "[J", Cond.fieldLink RX12 210 "ShortEnoughModel" "exact" "[J"] ++ wsX120)
noncomputable def wsX12_castOf : List Cond := .code yX12_castOf cX12_castOf 4 (some .long) :: ([Cond.fieldLink RX12 74 "ShortEnoughModel" "second" "[I", Cond.fieldLink RX12 71 "ShortEnoughModel" "first" "[I", Cond.fieldLink RX12 81 "ShortEnoughModel" "secondV" "[J", Cond.fieldLink RX12 77 "ShortEnoughModel" "firstV" "[J", Cond.fieldLink RX12 213 "ShortEnoughModel" "keptAs" "[J", Cond.fieldLink RX12 53 "ShortEnoughModel" "step" "[I", Cond.fieldLink RX12 125 "ShortEnoughModel" "hand" "[I", Cond.methodLink RX12 533 yX12_rounded, Cond.static yX12_rounded, Cond.initialized RX12, Cond.code yX12_rounded cX12_rounded 4 (some .long), Cond.constantLong RX12 383 (2), Cond.methodLink RX12 385 yX12_floor, Cond.static yX12_floor, Cond.code yX12_floor cX12_floor 6 (some .long)] ++ wsX120)
noncomputable def wsX12_triesOnce_r1 : List Cond := [Cond.fieldLink RX12 62 "ShortEnoughModel" "numbers" "[I", Cond.fieldLink RX12 53 "ShortEnoughModel" "step" "[I", Cond.fieldLink RX12 125 "ShortEnoughModel" "hand" "[I", Cond.fieldLink RX12 68 "ShortEnoughModel" "op" "[I", Cond.fieldLink RX12 210 "ShortEnoughModel" "exact" "[J", Cond.fieldLink RX12 77 "ShortEnoughModel" "firstV" "[J", Cond.fieldLink RX12 81 "ShortEnoughModel" "secondV" "[J", Cond.fieldLink RX12 213 "ShortEnoughModel" "keptAs" "[J", Cond.methodLink RX12 536 yX12_draw, Cond.instanceMethod yX12_draw, Cond.selects RX12 yX12_draw yX12_draw, Cond.initialized RX12, Cond.code yX12_draw cX12_draw 5 (some .long), Cond.constantLong RX12 527 (1103515245), Cond.fieldLink RX12 207 "ShortEnoughModel" "seedNow" "I", Cond.constantLong RX12 529 (12345), Cond.constantLong RX12 531 (2147483648), Cond.methodLink RX12 533 yX12_rounded, Cond.static yX12_rounded, Cond.code yX12_rounded cX12_rounded 4 (some .long), Cond.constantLong RX12 383 (2), Cond.methodLink RX12 385 yX12_floor, Cond.static yX12_floor, Cond.code yX12_floor cX12_floor 6 (some .long)]
noncomputable def wsX12_triesOnce_r2 : List Cond := [Cond.methodLink RX12 539 yX12_exactOf, Cond.instanceMethod yX12_exactOf, Cond.selects RX12 yX12_exactOf yX12_exactOf, Cond.code yX12_exactOf cX12_exactOf 4 (some .long), Cond.fieldLink RX12 74 "ShortEnoughModel" "second" "[I", Cond.fieldLink RX12 71 "ShortEnoughModel" "first" "[I", Cond.methodLink RX12 406 yX12_two, Cond.static yX12_two, Cond.code yX12_two cX12_two 7 (some .long), Cond.methodLink RX12 392 yX12_roundedProduct, Cond.static yX12_roundedProduct, Cond.code yX12_roundedProduct cX12_roundedProduct 6 (some .long), Cond.constantLong RX12 388 (1000), Cond.constantLong RX12 390 (2000), Cond.methodLink RX12 322 yX12_lesser, Cond.static yX12_lesser, Cond.code yX12_lesser cX12_lesser 4 (some .long), Cond.methodLink RX12 396 yX12_greater, Cond.static yX12_greater, Cond.code yX12_greater cX12_greater 4 (some .long), Cond.methodLink RX12 542 yX12_castOf, Cond.instanceMethod yX12_castOf, Cond.selects RX12 yX12_castOf yX12_castOf, Cond.code yX12_castOf cX12_castOf 4 (some .long)]
noncomputable def wsX12_triesOnce : List Cond := .code yX12_triesOnce cX12_triesOnce 4 none :: ((wsX12_triesOnce_r1 ++ wsX12_triesOnce_r2) ++ wsX120)
noncomputable def wsX12_trials_r1 : List Cond := [Cond.constantLong RX12 545 (40), Cond.fieldLink RX12 213 "ShortEnoughModel" "keptAs" "[J", Cond.fieldLink RX12 210 "ShortEnoughModel" "exact" "[J", Cond.methodLink RX12 263 yX12_isIn, Cond.static yX12_isIn, Cond.initialized RX12, Cond.code yX12_isIn cX12_isIn 6 (some .boolean), Cond.methodLink RX12 373 yX12_isNumber, Cond.instanceMethod yX12_isNumber, Cond.selects RX12 yX12_isNumber yX12_isNumber, Cond.code yX12_isNumber cX12_isNumber 2 (some .boolean), Cond.fieldLink RX12 62 "ShortEnoughModel" "numbers" "[I", Cond.methodLink RX12 452 yX12_handPasses, Cond.instanceMethod yX12_handPasses, Cond.selects RX12 yX12_handPasses yX12_handPasses, Cond.code yX12_handPasses cX12_handPasses 1 (some .boolean), Cond.fieldLink RX12 112 "ShortEnoughModel" "wideNumber" "I", Cond.fieldLink RX12 128 "ShortEnoughModel" "hasHand" "Z", Cond.methodLink RX12 440 yX12_triesHand, Cond.instanceMethod yX12_triesHand, Cond.selects RX12 yX12_triesHand yX12_triesHand, Cond.code yX12_triesHand cX12_triesHand 2 none, Cond.fieldLink RX12 132 "ShortEnoughModel" "tried" "[I", Cond.fieldLink RX12 125 "ShortEnoughModel" "hand" "[I"]
noncomputable def wsX12_trials_r2 : List Cond := [Cond.methodLink RX12 443 yX12_passes, Cond.instanceMethod yX12_passes, Cond.selects RX12 yX12_passes yX12_passes, Cond.code yX12_passes cX12_passes 2 (some .boolean), Cond.fieldLink RX12 138 "ShortEnoughModel" "failsAt" "I", Cond.fieldLink RX12 141 "ShortEnoughModel" "failsWhy" "I", Cond.fieldLink RX12 135 "ShortEnoughModel" "error" "[J", Cond.fieldLink RX12 56 "ShortEnoughModel" "most" "[I", Cond.fieldLink RX12 90 "ShortEnoughModel" "within" "[I", Cond.methodLink RX12 417 yX12_laysRange, Cond.instanceMethod yX12_laysRange, Cond.selects RX12 yX12_laysRange yX12_laysRange, Cond.code yX12_laysRange cX12_laysRange 18 none, Cond.fieldLink RX12 68 "ShortEnoughModel" "op" "[I", Cond.fieldLink RX12 115 "ShortEnoughModel" "wideBy" "J", Cond.fieldLink RX12 106 "ShortEnoughModel" "least" "[J", Cond.fieldLink RX12 77 "ShortEnoughModel" "firstV" "[J", Cond.fieldLink RX12 109 "ShortEnoughModel" "greatest" "[J", Cond.fieldLink RX12 81 "ShortEnoughModel" "secondV" "[J", Cond.methodLink RX12 399 yX12_lowOf, Cond.instanceMethod yX12_lowOf, Cond.selects RX12 yX12_lowOf yX12_lowOf, Cond.code yX12_lowOf cX12_lowOf 4 (some .long), Cond.fieldLink RX12 74 "ShortEnoughModel" "second" "[I"]
noncomputable def wsX12_trials_r3 : List Cond := [Cond.fieldLink RX12 71 "ShortEnoughModel" "first" "[I", Cond.methodLink RX12 403 yX12_highOf, Cond.instanceMethod yX12_highOf, Cond.selects RX12 yX12_highOf yX12_highOf, Cond.code yX12_highOf cX12_highOf 4 (some .long), Cond.methodLink RX12 406 yX12_two, Cond.static yX12_two, Cond.code yX12_two cX12_two 7 (some .long), Cond.methodLink RX12 392 yX12_roundedProduct, Cond.static yX12_roundedProduct, Cond.code yX12_roundedProduct cX12_roundedProduct 6 (some .long), Cond.constantLong RX12 383 (2), Cond.constantLong RX12 388 (1000), Cond.constantLong RX12 390 (2000), Cond.methodLink RX12 385 yX12_floor, Cond.static yX12_floor, Cond.code yX12_floor cX12_floor 6 (some .long), Cond.methodLink RX12 322 yX12_lesser, Cond.static yX12_lesser, Cond.code yX12_lesser cX12_lesser 4 (some .long), Cond.methodLink RX12 396 yX12_greater, Cond.static yX12_greater, Cond.code yX12_greater cX12_greater 4 (some .long), Cond.methodLink RX12 430 yX12_laysError]
noncomputable def wsX12_trials_r4 : List Cond := [Cond.instanceMethod yX12_laysError, Cond.selects RX12 yX12_laysError yX12_laysError, Cond.code yX12_laysError cX12_laysError 12 none, Cond.fieldLink RX12 53 "ShortEnoughModel" "step" "[I", Cond.methodLink RX12 427 yX12_castError, Cond.instanceMethod yX12_castError, Cond.selects RX12 yX12_castError yX12_castError, Cond.code yX12_castError cX12_castError 6 (some .long), Cond.methodLink RX12 410 yX12_amount, Cond.static yX12_amount, Cond.code yX12_amount cX12_amount 2 (some .long), Cond.methodLink RX12 420 yX12_mostOf, Cond.instanceMethod yX12_mostOf, Cond.selects RX12 yX12_mostOf yX12_mostOf, Cond.code yX12_mostOf cX12_mostOf 2 (some .long), Cond.methodLink RX12 216 yX12_refuses, Cond.instanceMethod yX12_refuses, Cond.selects RX12 yX12_refuses yX12_refuses, Cond.code yX12_refuses cX12_refuses 2 (some .int), Cond.fieldLink RX12 17 "ShortEnoughModel" "refused" "[I", Cond.methodLink RX12 547 yX12_triesOnce, Cond.instanceMethod yX12_triesOnce, Cond.selects RX12 yX12_triesOnce yX12_triesOnce, Cond.code yX12_triesOnce cX12_triesOnce 4 none]
noncomputable def wsX12_trials_r5 : List Cond := [Cond.methodLink RX12 536 yX12_draw, Cond.instanceMethod yX12_draw, Cond.selects RX12 yX12_draw yX12_draw, Cond.code yX12_draw cX12_draw 5 (some .long), Cond.constantLong RX12 527 (1103515245), Cond.fieldLink RX12 207 "ShortEnoughModel" "seedNow" "I", Cond.constantLong RX12 529 (12345), Cond.constantLong RX12 531 (2147483648), Cond.methodLink RX12 533 yX12_rounded, Cond.static yX12_rounded, Cond.code yX12_rounded cX12_rounded 4 (some .long), Cond.methodLink RX12 539 yX12_exactOf, Cond.instanceMethod yX12_exactOf, Cond.selects RX12 yX12_exactOf yX12_exactOf, Cond.code yX12_exactOf cX12_exactOf 4 (some .long), Cond.methodLink RX12 542 yX12_castOf, Cond.instanceMethod yX12_castOf, Cond.selects RX12 yX12_castOf yX12_castOf, Cond.code yX12_castOf cX12_castOf 4 (some .long)]
noncomputable def wsX12_trials : List Cond := .code yX12_trials cX12_trials 6 (some .long) :: ((wsX12_trials_r1 ++ (wsX12_trials_r2 ++ (wsX12_trials_r3 ++ (wsX12_trials_r4 ++ wsX12_trials_r5)))) ++ wsX120)
noncomputable def wsX12_trial_r1 : List Cond := [Cond.constantLong RX12 381 (-1000000000000000), Cond.fieldLink RX12 207 "ShortEnoughModel" "seedNow" "I", Cond.fieldLink RX12 213 "ShortEnoughModel" "keptAs" "[J", Cond.fieldLink RX12 210 "ShortEnoughModel" "exact" "[J", Cond.methodLink RX12 373 yX12_isNumber, Cond.instanceMethod yX12_isNumber, Cond.selects RX12 yX12_isNumber yX12_isNumber, Cond.initialized RX12, Cond.code yX12_isNumber cX12_isNumber 2 (some .boolean), Cond.fieldLink RX12 62 "ShortEnoughModel" "numbers" "[I", Cond.methodLink RX12 263 yX12_isIn, Cond.static yX12_isIn, Cond.code yX12_isIn cX12_isIn 6 (some .boolean), Cond.methodLink RX12 452 yX12_handPasses, Cond.instanceMethod yX12_handPasses, Cond.selects RX12 yX12_handPasses yX12_handPasses, Cond.code yX12_handPasses cX12_handPasses 1 (some .boolean), Cond.fieldLink RX12 112 "ShortEnoughModel" "wideNumber" "I", Cond.fieldLink RX12 128 "ShortEnoughModel" "hasHand" "Z", Cond.methodLink RX12 440 yX12_triesHand, Cond.instanceMethod yX12_triesHand, Cond.selects RX12 yX12_triesHand yX12_triesHand, Cond.code yX12_triesHand cX12_triesHand 2 none, Cond.fieldLink RX12 132 "ShortEnoughModel" "tried" "[I"]
noncomputable def wsX12_trial_r2 : List Cond := [Cond.fieldLink RX12 125 "ShortEnoughModel" "hand" "[I", Cond.methodLink RX12 443 yX12_passes, Cond.instanceMethod yX12_passes, Cond.selects RX12 yX12_passes yX12_passes, Cond.code yX12_passes cX12_passes 2 (some .boolean), Cond.fieldLink RX12 138 "ShortEnoughModel" "failsAt" "I", Cond.fieldLink RX12 141 "ShortEnoughModel" "failsWhy" "I", Cond.fieldLink RX12 135 "ShortEnoughModel" "error" "[J", Cond.fieldLink RX12 56 "ShortEnoughModel" "most" "[I", Cond.fieldLink RX12 90 "ShortEnoughModel" "within" "[I", Cond.methodLink RX12 417 yX12_laysRange, Cond.instanceMethod yX12_laysRange, Cond.selects RX12 yX12_laysRange yX12_laysRange, Cond.code yX12_laysRange cX12_laysRange 18 none, Cond.fieldLink RX12 68 "ShortEnoughModel" "op" "[I", Cond.fieldLink RX12 115 "ShortEnoughModel" "wideBy" "J", Cond.fieldLink RX12 106 "ShortEnoughModel" "least" "[J", Cond.fieldLink RX12 77 "ShortEnoughModel" "firstV" "[J", Cond.fieldLink RX12 109 "ShortEnoughModel" "greatest" "[J", Cond.fieldLink RX12 81 "ShortEnoughModel" "secondV" "[J", Cond.methodLink RX12 399 yX12_lowOf, Cond.instanceMethod yX12_lowOf, Cond.selects RX12 yX12_lowOf yX12_lowOf, Cond.code yX12_lowOf cX12_lowOf 4 (some .long)]
noncomputable def wsX12_trial_r3 : List Cond := [Cond.fieldLink RX12 74 "ShortEnoughModel" "second" "[I", Cond.fieldLink RX12 71 "ShortEnoughModel" "first" "[I", Cond.methodLink RX12 403 yX12_highOf, Cond.instanceMethod yX12_highOf, Cond.selects RX12 yX12_highOf yX12_highOf, Cond.code yX12_highOf cX12_highOf 4 (some .long), Cond.methodLink RX12 406 yX12_two, Cond.static yX12_two, Cond.code yX12_two cX12_two 7 (some .long), Cond.methodLink RX12 392 yX12_roundedProduct, Cond.static yX12_roundedProduct, Cond.code yX12_roundedProduct cX12_roundedProduct 6 (some .long), Cond.constantLong RX12 383 (2), Cond.constantLong RX12 388 (1000), Cond.constantLong RX12 390 (2000), Cond.methodLink RX12 385 yX12_floor, Cond.static yX12_floor, Cond.code yX12_floor cX12_floor 6 (some .long), Cond.methodLink RX12 322 yX12_lesser, Cond.static yX12_lesser, Cond.code yX12_lesser cX12_lesser 4 (some .long), Cond.methodLink RX12 396 yX12_greater, Cond.static yX12_greater, Cond.code yX12_greater cX12_greater 4 (some .long)]
noncomputable def wsX12_trial_r4 : List Cond := [Cond.methodLink RX12 430 yX12_laysError, Cond.instanceMethod yX12_laysError, Cond.selects RX12 yX12_laysError yX12_laysError, Cond.code yX12_laysError cX12_laysError 12 none, Cond.fieldLink RX12 53 "ShortEnoughModel" "step" "[I", Cond.methodLink RX12 427 yX12_castError, Cond.instanceMethod yX12_castError, Cond.selects RX12 yX12_castError yX12_castError, Cond.code yX12_castError cX12_castError 6 (some .long), Cond.methodLink RX12 410 yX12_amount, Cond.static yX12_amount, Cond.code yX12_amount cX12_amount 2 (some .long), Cond.methodLink RX12 420 yX12_mostOf, Cond.instanceMethod yX12_mostOf, Cond.selects RX12 yX12_mostOf yX12_mostOf, Cond.code yX12_mostOf cX12_mostOf 2 (some .long), Cond.methodLink RX12 547 yX12_triesOnce, Cond.instanceMethod yX12_triesOnce, Cond.selects RX12 yX12_triesOnce yX12_triesOnce, Cond.code yX12_triesOnce cX12_triesOnce 4 none, Cond.methodLink RX12 536 yX12_draw, Cond.instanceMethod yX12_draw, Cond.selects RX12 yX12_draw yX12_draw, Cond.code yX12_draw cX12_draw 5 (some .long)]
noncomputable def wsX12_trial_r5 : List Cond := [Cond.constantLong RX12 527 (1103515245), Cond.constantLong RX12 529 (12345), Cond.constantLong RX12 531 (2147483648), Cond.methodLink RX12 533 yX12_rounded, Cond.static yX12_rounded, Cond.code yX12_rounded cX12_rounded 4 (some .long), Cond.methodLink RX12 539 yX12_exactOf, Cond.instanceMethod yX12_exactOf, Cond.selects RX12 yX12_exactOf yX12_exactOf, Cond.code yX12_exactOf cX12_exactOf 4 (some .long), Cond.methodLink RX12 542 yX12_castOf, Cond.instanceMethod yX12_castOf, Cond.selects RX12 yX12_castOf yX12_castOf, Cond.code yX12_castOf cX12_castOf 4 (some .long)]
noncomputable def wsX12_trial : List Cond := .code yX12_trial cX12_trial 4 (some .long) :: ((wsX12_trial_r1 ++ (wsX12_trial_r2 ++ (wsX12_trial_r3 ++ (wsX12_trial_r4 ++ wsX12_trial_r5)))) ++ wsX120)
noncomputable def wsX12_seed : List Cond := .code yX12_seed cX12_seed 2 (some .boolean) :: ([Cond.fieldLink RX12 207 "ShortEnoughModel" "seedNow" "I", Cond.methodLink RX12 224 yX12_isRefused, Cond.instanceMethod yX12_isRefused, Cond.selects RX12 yX12_isRefused yX12_isRefused, Cond.initialized RX12, Cond.code yX12_isRefused cX12_isRefused 2 (some .boolean), Cond.fieldLink RX12 17 "ShortEnoughModel" "refused" "[I"] ++ wsX120)
noncomputable def wsX12_status : List Cond := .code yX12_status cX12_status 2 (some .int) :: ([Cond.constantLong RX12 550 (4), Cond.fieldLink RX12 17 "ShortEnoughModel" "refused" "[I", Cond.methodLink RX12 263 yX12_isIn, Cond.static yX12_isIn, Cond.initialized RX12, Cond.code yX12_isIn cX12_isIn 6 (some .boolean)] ++ wsX120)
theorem zB_X12_feed_X120 : ∀ w ∈ wsX120, w ∈ wsX12_feed := fun _ h => List.mem_cons_of_mem _ (List.mem_append_right _ h)
theorem zgw_X120 : wsX120.all goodWord = true := by decide +kernel
set_option maxRecDepth 100000 in
theorem ggX12_feed_X12_refuses : GoodIn wsX12_feed wsX12_refuses := goodIn_hd (goodIn_r _ [6] rfl (by decide +kernel)) (goodIn_app (goodIn_r _ [7] rfl (by decide +kernel)) (goodIn_sub zB_X12_feed_X120 zgw_X120))
set_option maxRecDepth 100000 in
theorem gX12_feed_X12_refuses : GoodIn wsX12_feed (wsV RX12 216 RX12 yX12_refuses wsX12_refuses) := goodIn_app (goodIn_r _ [2, 3, 4, 5] rfl (by decide +kernel)) ggX12_feed_X12_refuses
set_option maxRecDepth 100000 in
theorem ggX12_feed_X12_lays : GoodIn wsX12_feed wsX12_lays := goodIn_hd (goodIn_r _ [11] rfl (by decide +kernel)) (goodIn_app (goodIn_r _ [12, 1] rfl (by decide +kernel)) (goodIn_sub zB_X12_feed_X120 zgw_X120))
set_option maxRecDepth 100000 in
theorem gX12_feed_X12_lays : GoodIn wsX12_feed (wsV RX12 220 RX12 yX12_lays wsX12_lays) := goodIn_app (goodIn_r _ [8, 9, 10, 5] rfl (by decide +kernel)) ggX12_feed_X12_lays
theorem zB_X12_end_X120 : ∀ w ∈ wsX120, w ∈ wsX12_end := fun _ h => List.mem_cons_of_mem _ (List.mem_append_right _ h)
set_option maxRecDepth 100000 in
theorem ggX12_end_X12_isRefused : GoodIn wsX12_end wsX12_isRefused := goodIn_hd (goodIn_r _ [6] rfl (by decide +kernel)) (goodIn_app (goodIn_r _ [7] rfl (by decide +kernel)) (goodIn_sub zB_X12_end_X120 zgw_X120))
set_option maxRecDepth 100000 in
theorem gX12_end_X12_isRefused : GoodIn wsX12_end (wsV RX12 224 RX12 yX12_isRefused wsX12_isRefused) := goodIn_app (goodIn_r _ [2, 3, 4, 5] rfl (by decide +kernel)) ggX12_end_X12_isRefused
theorem zB_X12_isSmall_X120 : ∀ w ∈ wsX120, w ∈ wsX12_isSmall := fun _ h => List.mem_cons_of_mem _ (List.mem_append_right _ h)
set_option maxRecDepth 100000 in
theorem ggX12_isSmall_X12_byteAt : GoodIn wsX12_isSmall wsX12_byteAt := goodIn_hd (goodIn_r _ [5] rfl (by decide +kernel)) (goodIn_app (goodIn_r _ [6, 7] rfl (by decide +kernel)) (goodIn_sub zB_X12_isSmall_X120 zgw_X120))
set_option maxRecDepth 100000 in
theorem gX12_isSmall_X12_byteAt : GoodIn wsX12_isSmall (wsV RX12 228 RX12 yX12_byteAt wsX12_byteAt) := goodIn_app (goodIn_r _ [1, 2, 3, 4] rfl (by decide +kernel)) ggX12_isSmall_X12_byteAt
theorem zB_X12_isDigit_X120 : ∀ w ∈ wsX120, w ∈ wsX12_isDigit := fun _ h => List.mem_cons_of_mem _ (List.mem_append_right _ h)
set_option maxRecDepth 100000 in
theorem ggX12_isDigit_X12_byteAt : GoodIn wsX12_isDigit wsX12_byteAt := goodIn_hd (goodIn_r _ [5] rfl (by decide +kernel)) (goodIn_app (goodIn_r _ [6, 7] rfl (by decide +kernel)) (goodIn_sub zB_X12_isDigit_X120 zgw_X120))
set_option maxRecDepth 100000 in
theorem gX12_isDigit_X12_byteAt : GoodIn wsX12_isDigit (wsV RX12 228 RX12 yX12_byteAt wsX12_byteAt) := goodIn_app (goodIn_r _ [1, 2, 3, 4] rfl (by decide +kernel)) ggX12_isDigit_X12_byteAt
theorem zB_X12_here_X120 : ∀ w ∈ wsX120, w ∈ wsX12_here := fun _ h => List.mem_cons_of_mem _ (List.mem_append_right _ h)
set_option maxRecDepth 100000 in
theorem ggX12_here_X12_byteAt : GoodIn wsX12_here wsX12_byteAt := goodIn_hd (goodIn_r _ [6] rfl (by decide +kernel)) (goodIn_app (goodIn_r _ [7, 8] rfl (by decide +kernel)) (goodIn_sub zB_X12_here_X120 zgw_X120))
set_option maxRecDepth 100000 in
theorem gX12_here_X12_byteAt : GoodIn wsX12_here (wsV RX12 228 RX12 yX12_byteAt wsX12_byteAt) := goodIn_app (goodIn_r _ [2, 3, 4, 5] rfl (by decide +kernel)) ggX12_here_X12_byteAt
theorem zB_X12_mark_X120 : ∀ w ∈ wsX120, w ∈ wsX12_mark := fun _ h => List.mem_cons_of_mem _ (List.mem_append_right _ h)
set_option maxRecDepth 100000 in
theorem ggX12_mark_X12_goesWell : GoodIn wsX12_mark wsX12_goesWell := goodIn_hd (goodIn_r _ [6] rfl (by decide +kernel)) (goodIn_app (goodIn_r _ [7] rfl (by decide +kernel)) (goodIn_sub zB_X12_mark_X120 zgw_X120))
set_option maxRecDepth 100000 in
theorem gX12_mark_X12_goesWell : GoodIn wsX12_mark (wsV RX12 231 RX12 yX12_goesWell wsX12_goesWell) := goodIn_app (goodIn_r _ [2, 3, 4, 5] rfl (by decide +kernel)) ggX12_mark_X12_goesWell
set_option maxRecDepth 100000 in
theorem ggX12_mark_X12_here : GoodIn wsX12_mark wsX12_here := goodIn_hd (goodIn_r _ [11] rfl (by decide +kernel)) (goodIn_app (goodIn_r _ [1, 12, 13, 14, 5, 15, 16, 17] rfl (by decide +kernel)) (goodIn_sub zB_X12_mark_X120 zgw_X120))
set_option maxRecDepth 100000 in
theorem gX12_mark_X12_here : GoodIn wsX12_mark (wsV RX12 235 RX12 yX12_here wsX12_here) := goodIn_app (goodIn_r _ [8, 9, 10, 5] rfl (by decide +kernel)) ggX12_mark_X12_here
set_option maxRecDepth 100000 in
theorem ggX12_mark_X12_faults : GoodIn wsX12_mark wsX12_faults := goodIn_hd (goodIn_r _ [21] rfl (by decide +kernel)) (goodIn_app (goodIn_r _ [7, 22] rfl (by decide +kernel)) (goodIn_sub zB_X12_mark_X120 zgw_X120))
set_option maxRecDepth 100000 in
theorem gX12_mark_X12_faults : GoodIn wsX12_mark (wsV RX12 239 RX12 yX12_faults wsX12_faults) := goodIn_app (goodIn_r _ [18, 19, 20, 5] rfl (by decide +kernel)) ggX12_mark_X12_faults
noncomputable def zc_wsX12_word : List (List Cond) := [wsX12_word_r1, wsX12_word_r2, wsX120]
set_option maxRecDepth 20000 in
theorem zc_wsX12_word_in : ∀ l ∈ zc_wsX12_word, ∀ w ∈ l, w ∈ wsX12_word := by
  intro l hl
  unfold zc_wsX12_word at hl
  rcases List.mem_cons.mp hl with e | hl
  · rw [e]
    exact fun w h => List.mem_cons_of_mem _ (List.mem_append_left _ (List.mem_append_left _ h))
  rcases List.mem_cons.mp hl with e | hl
  · rw [e]
    exact fun w h => List.mem_cons_of_mem _ (List.mem_append_left _ (List.mem_append_right _ h))
  rcases List.mem_cons.mp hl with e | hl
  · rw [e]
    exact fun w h => List.mem_cons_of_mem _ (List.mem_append_right _ h)
  cases hl
theorem zB_X12_word_X120 : ∀ w ∈ wsX120, w ∈ wsX12_word := fun _ h => List.mem_cons_of_mem _ (List.mem_append_right _ h)
set_option maxRecDepth 100000 in
theorem ggX12_word_X12_goesWell : GoodIn wsX12_word wsX12_goesWell := goodIn_hd (goodIn_c zc_wsX12_word_in [(0, 6)] rfl (by decide +kernel)) (goodIn_app (goodIn_c zc_wsX12_word_in [(0, 7)] rfl (by decide +kernel)) (goodIn_sub zB_X12_word_X120 zgw_X120))
set_option maxRecDepth 100000 in
theorem gX12_word_X12_goesWell : GoodIn wsX12_word (wsV RX12 231 RX12 yX12_goesWell wsX12_goesWell) := goodIn_app (goodIn_r _ [3, 4, 5, 6] rfl (by decide +kernel)) ggX12_word_X12_goesWell
set_option maxRecDepth 100000 in
theorem ggX12_word_X12_here : GoodIn wsX12_word wsX12_here := goodIn_hd (goodIn_c zc_wsX12_word_in [(0, 11)] rfl (by decide +kernel)) (goodIn_app (goodIn_c zc_wsX12_word_in [(0, 0), (0, 12), (0, 13), (0, 14), (0, 5), (0, 15), (0, 16), (0, 17)] rfl (by decide +kernel)) (goodIn_sub zB_X12_word_X120 zgw_X120))
set_option maxRecDepth 100000 in
theorem gX12_word_X12_here : GoodIn wsX12_word (wsV RX12 235 RX12 yX12_here wsX12_here) := goodIn_app (goodIn_r _ [9, 10, 11, 6] rfl (by decide +kernel)) ggX12_word_X12_here
set_option maxRecDepth 100000 in
theorem ggX12_word_X12_isSmall : GoodIn wsX12_word wsX12_isSmall := goodIn_hd (goodIn_c zc_wsX12_word_in [(0, 21)] rfl (by decide +kernel)) (goodIn_app (goodIn_c zc_wsX12_word_in [(0, 12), (0, 13), (0, 14), (0, 5), (0, 15), (0, 16), (0, 17)] rfl (by decide +kernel)) (goodIn_sub zB_X12_word_X120 zgw_X120))
set_option maxRecDepth 100000 in
theorem gX12_word_X12_isSmall : GoodIn wsX12_word (wsV RX12 243 RX12 yX12_isSmall wsX12_isSmall) := goodIn_app (goodIn_r _ [19, 20, 21, 6] rfl (by decide +kernel)) ggX12_word_X12_isSmall
set_option maxRecDepth 100000 in
theorem ggX12_word_X12_isDigit : GoodIn wsX12_word wsX12_isDigit := goodIn_hd (goodIn_c zc_wsX12_word_in [(1, 1)] rfl (by decide +kernel)) (goodIn_app (goodIn_c zc_wsX12_word_in [(0, 12), (0, 13), (0, 14), (0, 5), (0, 15), (0, 16), (0, 17)] rfl (by decide +kernel)) (goodIn_sub zB_X12_word_X120 zgw_X120))
set_option maxRecDepth 100000 in
theorem gX12_word_X12_isDigit : GoodIn wsX12_word (wsV RX12 246 RX12 yX12_isDigit wsX12_isDigit) := goodIn_app (goodIn_r _ [23, 24, 25, 6] rfl (by decide +kernel)) ggX12_word_X12_isDigit
set_option maxRecDepth 100000 in
theorem ggX12_word_X12_faults : GoodIn wsX12_word wsX12_faults := goodIn_hd (goodIn_c zc_wsX12_word_in [(1, 5)] rfl (by decide +kernel)) (goodIn_app (goodIn_c zc_wsX12_word_in [(0, 7), (1, 6)] rfl (by decide +kernel)) (goodIn_sub zB_X12_word_X120 zgw_X120))
set_option maxRecDepth 100000 in
theorem gX12_word_X12_faults : GoodIn wsX12_word (wsV RX12 239 RX12 yX12_faults wsX12_faults) := goodIn_app (goodIn_r _ [27, 28, 29, 6] rfl (by decide +kernel)) ggX12_word_X12_faults
noncomputable def zc_wsX12_must : List (List Cond) := [wsX12_must_r1, wsX12_must_r2, wsX120]
set_option maxRecDepth 20000 in
theorem zc_wsX12_must_in : ∀ l ∈ zc_wsX12_must, ∀ w ∈ l, w ∈ wsX12_must := by
  intro l hl
  unfold zc_wsX12_must at hl
  rcases List.mem_cons.mp hl with e | hl
  · rw [e]
    exact fun w h => List.mem_cons_of_mem _ (List.mem_append_left _ (List.mem_append_left _ h))
  rcases List.mem_cons.mp hl with e | hl
  · rw [e]
    exact fun w h => List.mem_cons_of_mem _ (List.mem_append_left _ (List.mem_append_right _ h))
  rcases List.mem_cons.mp hl with e | hl
  · rw [e]
    exact fun w h => List.mem_cons_of_mem _ (List.mem_append_right _ h)
  cases hl
theorem zB_X12_must_X120 : ∀ w ∈ wsX120, w ∈ wsX12_must := fun _ h => List.mem_cons_of_mem _ (List.mem_append_right _ h)
set_option maxRecDepth 100000 in
theorem ggX12_must_X12_word : GoodIn wsX12_must wsX12_word := goodIn_hd (goodIn_c zc_wsX12_must_in [(0, 5)] rfl (by decide +kernel)) (goodIn_app (goodIn_app (goodIn_c zc_wsX12_must_in [(0, 6), (0, 0), (0, 7), (0, 8), (0, 9), (0, 4), (0, 10), (0, 11), (0, 12), (0, 13), (0, 14), (0, 15), (0, 16), (0, 17), (0, 18), (0, 19), (0, 20), (0, 21), (0, 22), (0, 23), (1, 0), (1, 1), (1, 2), (1, 3)] rfl (by decide +kernel)) (goodIn_c zc_wsX12_must_in [(1, 4), (1, 5), (1, 6), (1, 7), (1, 8), (1, 9), (1, 10)] rfl (by decide +kernel))) (goodIn_sub zB_X12_must_X120 zgw_X120))
set_option maxRecDepth 100000 in
theorem gX12_must_X12_word : GoodIn wsX12_must (wsV RX12 249 RX12 yX12_word wsX12_word) := goodIn_app (goodIn_r _ [2, 3, 4, 5] rfl (by decide +kernel)) ggX12_must_X12_word
set_option maxRecDepth 100000 in
theorem ggX12_must_X12_goesWell : GoodIn wsX12_must wsX12_goesWell := goodIn_hd (goodIn_c zc_wsX12_must_in [(0, 10)] rfl (by decide +kernel)) (goodIn_app (goodIn_c zc_wsX12_must_in [(0, 11)] rfl (by decide +kernel)) (goodIn_sub zB_X12_must_X120 zgw_X120))
set_option maxRecDepth 100000 in
theorem gX12_must_X12_goesWell : GoodIn wsX12_must (wsV RX12 231 RX12 yX12_goesWell wsX12_goesWell) := goodIn_app (goodIn_r _ [8, 9, 10, 5] rfl (by decide +kernel)) ggX12_must_X12_goesWell
set_option maxRecDepth 100000 in
theorem ggX12_must_X12_own : GoodIn wsX12_must wsX12_own := goodIn_hd (goodIn_c zc_wsX12_must_in [(1, 14)] rfl (by decide +kernel)) (goodIn_app (goodIn_c zc_wsX12_must_in [(1, 15), (0, 0), (0, 6), (0, 21)] rfl (by decide +kernel)) (goodIn_sub zB_X12_must_X120 zgw_X120))
set_option maxRecDepth 100000 in
theorem gX12_must_X12_own : GoodIn wsX12_must (wsV RX12 252 RX12 yX12_own wsX12_own) := goodIn_app (goodIn_r _ [36, 37, 38, 5] rfl (by decide +kernel)) ggX12_must_X12_own
set_option maxRecDepth 100000 in
theorem ggX12_must_X12_faults : GoodIn wsX12_must wsX12_faults := goodIn_hd (goodIn_c zc_wsX12_must_in [(1, 9)] rfl (by decide +kernel)) (goodIn_app (goodIn_c zc_wsX12_must_in [(0, 11), (1, 10)] rfl (by decide +kernel)) (goodIn_sub zB_X12_must_X120 zgw_X120))
set_option maxRecDepth 100000 in
theorem gX12_must_X12_faults : GoodIn wsX12_must (wsV RX12 239 RX12 yX12_faults wsX12_faults) := goodIn_app (goodIn_r _ [31, 32, 33, 5] rfl (by decide +kernel)) ggX12_must_X12_faults
noncomputable def zc_wsX12_name : List (List Cond) := [wsX12_name_r1, wsX12_name_r2, wsX120]
set_option maxRecDepth 20000 in
theorem zc_wsX12_name_in : ∀ l ∈ zc_wsX12_name, ∀ w ∈ l, w ∈ wsX12_name := by
  intro l hl
  unfold zc_wsX12_name at hl
  rcases List.mem_cons.mp hl with e | hl
  · rw [e]
    exact fun w h => List.mem_cons_of_mem _ (List.mem_append_left _ (List.mem_append_left _ h))
  rcases List.mem_cons.mp hl with e | hl
  · rw [e]
    exact fun w h => List.mem_cons_of_mem _ (List.mem_append_left _ (List.mem_append_right _ h))
  rcases List.mem_cons.mp hl with e | hl
  · rw [e]
    exact fun w h => List.mem_cons_of_mem _ (List.mem_append_right _ h)
  cases hl
theorem zB_X12_name_X120 : ∀ w ∈ wsX120, w ∈ wsX12_name := fun _ h => List.mem_cons_of_mem _ (List.mem_append_right _ h)
set_option maxRecDepth 100000 in
theorem ggX12_name_X12_word : GoodIn wsX12_name wsX12_word := goodIn_hd (goodIn_c zc_wsX12_name_in [(0, 7)] rfl (by decide +kernel)) (goodIn_app (goodIn_app (goodIn_c zc_wsX12_name_in [(0, 0), (0, 1), (0, 8), (0, 9), (0, 10), (0, 6), (0, 11), (0, 12), (0, 13), (0, 14), (0, 15), (0, 16), (0, 17), (0, 18), (0, 19), (0, 20), (0, 21), (0, 2), (0, 22), (0, 23), (1, 0), (1, 1), (1, 2), (1, 3)] rfl (by decide +kernel)) (goodIn_c zc_wsX12_name_in [(1, 4), (1, 5), (1, 6), (1, 7), (1, 8), (1, 9), (1, 10)] rfl (by decide +kernel))) (goodIn_sub zB_X12_name_X120 zgw_X120))
set_option maxRecDepth 100000 in
theorem gX12_name_X12_word : GoodIn wsX12_name (wsV RX12 249 RX12 yX12_word wsX12_word) := goodIn_app (goodIn_r _ [4, 5, 6, 7] rfl (by decide +kernel)) ggX12_name_X12_word
set_option maxRecDepth 100000 in
theorem ggX12_name_X12_goesWell : GoodIn wsX12_name wsX12_goesWell := goodIn_hd (goodIn_c zc_wsX12_name_in [(0, 11)] rfl (by decide +kernel)) (goodIn_app (goodIn_c zc_wsX12_name_in [(0, 12)] rfl (by decide +kernel)) (goodIn_sub zB_X12_name_X120 zgw_X120))
set_option maxRecDepth 100000 in
theorem gX12_name_X12_goesWell : GoodIn wsX12_name (wsV RX12 231 RX12 yX12_goesWell wsX12_goesWell) := goodIn_app (goodIn_r _ [9, 10, 11, 7] rfl (by decide +kernel)) ggX12_name_X12_goesWell
set_option maxRecDepth 100000 in
theorem ggX12_name_X12_own : GoodIn wsX12_name wsX12_own := goodIn_hd (goodIn_c zc_wsX12_name_in [(1, 14)] rfl (by decide +kernel)) (goodIn_app (goodIn_c zc_wsX12_name_in [(1, 15), (0, 1), (0, 0), (0, 2)] rfl (by decide +kernel)) (goodIn_sub zB_X12_name_X120 zgw_X120))
set_option maxRecDepth 100000 in
theorem gX12_name_X12_own : GoodIn wsX12_name (wsV RX12 252 RX12 yX12_own wsX12_own) := goodIn_app (goodIn_r _ [36, 37, 38, 7] rfl (by decide +kernel)) ggX12_name_X12_own
set_option maxRecDepth 100000 in
theorem ggX12_name_X12_faults : GoodIn wsX12_name wsX12_faults := goodIn_hd (goodIn_c zc_wsX12_name_in [(1, 9)] rfl (by decide +kernel)) (goodIn_app (goodIn_c zc_wsX12_name_in [(0, 12), (1, 10)] rfl (by decide +kernel)) (goodIn_sub zB_X12_name_X120 zgw_X120))
set_option maxRecDepth 100000 in
theorem gX12_name_X12_faults : GoodIn wsX12_name (wsV RX12 239 RX12 yX12_faults wsX12_faults) := goodIn_app (goodIn_r _ [31, 32, 33, 7] rfl (by decide +kernel)) ggX12_name_X12_faults
noncomputable def zc_wsX12_digits : List (List Cond) := [wsX12_digits_r1, wsX12_digits_r2, wsX120]
set_option maxRecDepth 20000 in
theorem zc_wsX12_digits_in : ∀ l ∈ zc_wsX12_digits, ∀ w ∈ l, w ∈ wsX12_digits := by
  intro l hl
  unfold zc_wsX12_digits at hl
  rcases List.mem_cons.mp hl with e | hl
  · rw [e]
    exact fun w h => List.mem_cons_of_mem _ (List.mem_append_left _ (List.mem_append_left _ h))
  rcases List.mem_cons.mp hl with e | hl
  · rw [e]
    exact fun w h => List.mem_cons_of_mem _ (List.mem_append_left _ (List.mem_append_right _ h))
  rcases List.mem_cons.mp hl with e | hl
  · rw [e]
    exact fun w h => List.mem_cons_of_mem _ (List.mem_append_right _ h)
  cases hl
theorem zB_X12_digits_X120 : ∀ w ∈ wsX120, w ∈ wsX12_digits := fun _ h => List.mem_cons_of_mem _ (List.mem_append_right _ h)
set_option maxRecDepth 100000 in
theorem ggX12_digits_X12_goesWell : GoodIn wsX12_digits wsX12_goesWell := goodIn_hd (goodIn_c zc_wsX12_digits_in [(0, 8)] rfl (by decide +kernel)) (goodIn_app (goodIn_c zc_wsX12_digits_in [(0, 9)] rfl (by decide +kernel)) (goodIn_sub zB_X12_digits_X120 zgw_X120))
set_option maxRecDepth 100000 in
theorem gX12_digits_X12_goesWell : GoodIn wsX12_digits (wsV RX12 231 RX12 yX12_goesWell wsX12_goesWell) := goodIn_app (goodIn_r _ [5, 6, 7, 8] rfl (by decide +kernel)) ggX12_digits_X12_goesWell
set_option maxRecDepth 100000 in
theorem ggX12_digits_X12_here : GoodIn wsX12_digits wsX12_here := goodIn_hd (goodIn_c zc_wsX12_digits_in [(0, 13)] rfl (by decide +kernel)) (goodIn_app (goodIn_c zc_wsX12_digits_in [(0, 0), (0, 14), (0, 15), (0, 16), (0, 7), (0, 17), (0, 18), (0, 19)] rfl (by decide +kernel)) (goodIn_sub zB_X12_digits_X120 zgw_X120))
set_option maxRecDepth 100000 in
theorem gX12_digits_X12_here : GoodIn wsX12_digits (wsV RX12 235 RX12 yX12_here wsX12_here) := goodIn_app (goodIn_r _ [11, 12, 13, 8] rfl (by decide +kernel)) ggX12_digits_X12_here
set_option maxRecDepth 100000 in
theorem ggX12_digits_X12_isDigit : GoodIn wsX12_digits wsX12_isDigit := goodIn_hd (goodIn_c zc_wsX12_digits_in [(0, 23)] rfl (by decide +kernel)) (goodIn_app (goodIn_c zc_wsX12_digits_in [(0, 14), (0, 15), (0, 16), (0, 7), (0, 17), (0, 18), (0, 19)] rfl (by decide +kernel)) (goodIn_sub zB_X12_digits_X120 zgw_X120))
set_option maxRecDepth 100000 in
theorem gX12_digits_X12_isDigit : GoodIn wsX12_digits (wsV RX12 246 RX12 yX12_isDigit wsX12_isDigit) := goodIn_app (goodIn_r _ [21, 22, 23, 8] rfl (by decide +kernel)) ggX12_digits_X12_isDigit
set_option maxRecDepth 100000 in
theorem ggX12_digits_X12_isSmall : GoodIn wsX12_digits wsX12_isSmall := goodIn_hd (goodIn_c zc_wsX12_digits_in [(1, 3)] rfl (by decide +kernel)) (goodIn_app (goodIn_c zc_wsX12_digits_in [(0, 14), (0, 15), (0, 16), (0, 7), (0, 17), (0, 18), (0, 19)] rfl (by decide +kernel)) (goodIn_sub zB_X12_digits_X120 zgw_X120))
set_option maxRecDepth 100000 in
theorem gX12_digits_X12_isSmall : GoodIn wsX12_digits (wsV RX12 243 RX12 yX12_isSmall wsX12_isSmall) := goodIn_app (goodIn_r _ [25, 26, 27, 8] rfl (by decide +kernel)) ggX12_digits_X12_isSmall
set_option maxRecDepth 100000 in
theorem ggX12_digits_X12_faults : GoodIn wsX12_digits wsX12_faults := goodIn_hd (goodIn_c zc_wsX12_digits_in [(1, 7)] rfl (by decide +kernel)) (goodIn_app (goodIn_c zc_wsX12_digits_in [(0, 9), (1, 8)] rfl (by decide +kernel)) (goodIn_sub zB_X12_digits_X120 zgw_X120))
set_option maxRecDepth 100000 in
theorem gX12_digits_X12_faults : GoodIn wsX12_digits (wsV RX12 239 RX12 yX12_faults wsX12_faults) := goodIn_app (goodIn_r _ [29, 30, 31, 8] rfl (by decide +kernel)) ggX12_digits_X12_faults
set_option maxRecDepth 100000 in
theorem ggX12_digits_X12_byteAt : GoodIn wsX12_digits wsX12_byteAt := goodIn_hd (goodIn_c zc_wsX12_digits_in [(0, 17)] rfl (by decide +kernel)) (goodIn_app (goodIn_c zc_wsX12_digits_in [(0, 18), (0, 19)] rfl (by decide +kernel)) (goodIn_sub zB_X12_digits_X120 zgw_X120))
set_option maxRecDepth 100000 in
theorem gX12_digits_X12_byteAt : GoodIn wsX12_digits (wsV RX12 228 RX12 yX12_byteAt wsX12_byteAt) := goodIn_app (goodIn_r _ [15, 16, 17, 8] rfl (by decide +kernel)) ggX12_digits_X12_byteAt
noncomputable def zc_wsX12_number : List (List Cond) := [wsX12_number_r1, wsX12_number_r2, wsX120]
set_option maxRecDepth 20000 in
theorem zc_wsX12_number_in : ∀ l ∈ zc_wsX12_number, ∀ w ∈ l, w ∈ wsX12_number := by
  intro l hl
  unfold zc_wsX12_number at hl
  rcases List.mem_cons.mp hl with e | hl
  · rw [e]
    exact fun w h => List.mem_cons_of_mem _ (List.mem_append_left _ (List.mem_append_left _ h))
  rcases List.mem_cons.mp hl with e | hl
  · rw [e]
    exact fun w h => List.mem_cons_of_mem _ (List.mem_append_left _ (List.mem_append_right _ h))
  rcases List.mem_cons.mp hl with e | hl
  · rw [e]
    exact fun w h => List.mem_cons_of_mem _ (List.mem_append_right _ h)
  cases hl
theorem zB_X12_number_X120 : ∀ w ∈ wsX120, w ∈ wsX12_number := fun _ h => List.mem_cons_of_mem _ (List.mem_append_right _ h)
set_option maxRecDepth 100000 in
theorem ggX12_number_X12_digits : GoodIn wsX12_number wsX12_digits := goodIn_hd (goodIn_c zc_wsX12_number_in [(0, 5)] rfl (by decide +kernel)) (goodIn_app (goodIn_app (goodIn_c zc_wsX12_number_in [(0, 6), (0, 0), (0, 7), (0, 8), (0, 9), (0, 10), (0, 11), (0, 4), (0, 12), (0, 13), (0, 14), (0, 15), (0, 16), (0, 17), (0, 18), (0, 19), (0, 20), (0, 21), (0, 22), (0, 23), (1, 0), (1, 1), (1, 2), (1, 3)] rfl (by decide +kernel)) (goodIn_c zc_wsX12_number_in [(1, 4), (1, 5), (1, 6), (1, 7), (1, 8), (1, 9), (1, 10), (1, 11), (1, 12)] rfl (by decide +kernel))) (goodIn_sub zB_X12_number_X120 zgw_X120))
set_option maxRecDepth 100000 in
theorem gX12_number_X12_digits : GoodIn wsX12_number (wsV RX12 259 RX12 yX12_digits wsX12_digits) := goodIn_app (goodIn_r _ [2, 3, 4, 5] rfl (by decide +kernel)) ggX12_number_X12_digits
set_option maxRecDepth 100000 in
theorem ggX12_number_X12_goesWell : GoodIn wsX12_number wsX12_goesWell := goodIn_hd (goodIn_c zc_wsX12_number_in [(0, 12)] rfl (by decide +kernel)) (goodIn_app (goodIn_c zc_wsX12_number_in [(0, 13)] rfl (by decide +kernel)) (goodIn_sub zB_X12_number_X120 zgw_X120))
set_option maxRecDepth 100000 in
theorem gX12_number_X12_goesWell : GoodIn wsX12_number (wsV RX12 231 RX12 yX12_goesWell wsX12_goesWell) := goodIn_app (goodIn_r _ [10, 11, 12, 5] rfl (by decide +kernel)) ggX12_number_X12_goesWell
set_option maxRecDepth 100000 in
theorem ggX12_number_X12_isIn : GoodIn wsX12_number wsX12_isIn := goodIn_r _ [40] rfl (by decide +kernel)
set_option maxRecDepth 100000 in
theorem gX12_number_X12_isIn : GoodIn wsX12_number (va_wsS RX12 263 yX12_isIn wsX12_isIn) := goodIn_app (goodIn_r _ [38, 39, 5] rfl (by decide +kernel)) ggX12_number_X12_isIn
set_option maxRecDepth 100000 in
theorem ggX12_number_X12_faults : GoodIn wsX12_number wsX12_faults := goodIn_hd (goodIn_c zc_wsX12_number_in [(1, 11)] rfl (by decide +kernel)) (goodIn_app (goodIn_c zc_wsX12_number_in [(0, 13), (1, 12)] rfl (by decide +kernel)) (goodIn_sub zB_X12_number_X120 zgw_X120))
set_option maxRecDepth 100000 in
theorem gX12_number_X12_faults : GoodIn wsX12_number (wsV RX12 239 RX12 yX12_faults wsX12_faults) := goodIn_app (goodIn_r _ [33, 34, 35, 5] rfl (by decide +kernel)) ggX12_number_X12_faults
noncomputable def zc_wsX12_signed : List (List Cond) := [wsX12_signed_r1, wsX12_signed_r2, wsX120]
set_option maxRecDepth 20000 in
theorem zc_wsX12_signed_in : ∀ l ∈ zc_wsX12_signed, ∀ w ∈ l, w ∈ wsX12_signed := by
  intro l hl
  unfold zc_wsX12_signed at hl
  rcases List.mem_cons.mp hl with e | hl
  · rw [e]
    exact fun w h => List.mem_cons_of_mem _ (List.mem_append_left _ (List.mem_append_left _ h))
  rcases List.mem_cons.mp hl with e | hl
  · rw [e]
    exact fun w h => List.mem_cons_of_mem _ (List.mem_append_left _ (List.mem_append_right _ h))
  rcases List.mem_cons.mp hl with e | hl
  · rw [e]
    exact fun w h => List.mem_cons_of_mem _ (List.mem_append_right _ h)
  cases hl
theorem zB_X12_signed_X120 : ∀ w ∈ wsX120, w ∈ wsX12_signed := fun _ h => List.mem_cons_of_mem _ (List.mem_append_right _ h)
set_option maxRecDepth 100000 in
theorem ggX12_signed_X12_goesWell : GoodIn wsX12_signed wsX12_goesWell := goodIn_hd (goodIn_c zc_wsX12_signed_in [(0, 6)] rfl (by decide +kernel)) (goodIn_app (goodIn_c zc_wsX12_signed_in [(0, 7)] rfl (by decide +kernel)) (goodIn_sub zB_X12_signed_X120 zgw_X120))
set_option maxRecDepth 100000 in
theorem gX12_signed_X12_goesWell : GoodIn wsX12_signed (wsV RX12 231 RX12 yX12_goesWell wsX12_goesWell) := goodIn_app (goodIn_r _ [3, 4, 5, 6] rfl (by decide +kernel)) ggX12_signed_X12_goesWell
set_option maxRecDepth 100000 in
theorem ggX12_signed_X12_here : GoodIn wsX12_signed wsX12_here := goodIn_hd (goodIn_c zc_wsX12_signed_in [(0, 11)] rfl (by decide +kernel)) (goodIn_app (goodIn_c zc_wsX12_signed_in [(0, 0), (0, 12), (0, 13), (0, 14), (0, 5), (0, 15), (0, 16), (0, 17)] rfl (by decide +kernel)) (goodIn_sub zB_X12_signed_X120 zgw_X120))
set_option maxRecDepth 100000 in
theorem gX12_signed_X12_here : GoodIn wsX12_signed (wsV RX12 235 RX12 yX12_here wsX12_here) := goodIn_app (goodIn_r _ [9, 10, 11, 6] rfl (by decide +kernel)) ggX12_signed_X12_here
set_option maxRecDepth 100000 in
theorem ggX12_signed_X12_digits : GoodIn wsX12_signed wsX12_digits := goodIn_hd (goodIn_c zc_wsX12_signed_in [(0, 21)] rfl (by decide +kernel)) (goodIn_app (goodIn_app (goodIn_c zc_wsX12_signed_in [(0, 0), (0, 1), (0, 22), (0, 23), (0, 2), (0, 3), (0, 4), (0, 5), (0, 6), (0, 7), (0, 8), (0, 9), (0, 10), (0, 11), (0, 12), (0, 13), (0, 14), (0, 15), (0, 16), (0, 17), (1, 0), (1, 1), (1, 2), (1, 3)] rfl (by decide +kernel)) (goodIn_c zc_wsX12_signed_in [(1, 4), (1, 5), (1, 6), (1, 7), (1, 8), (1, 9), (1, 10), (1, 11), (1, 12)] rfl (by decide +kernel))) (goodIn_sub zB_X12_signed_X120 zgw_X120))
set_option maxRecDepth 100000 in
theorem gX12_signed_X12_digits : GoodIn wsX12_signed (wsV RX12 259 RX12 yX12_digits wsX12_digits) := goodIn_app (goodIn_r _ [19, 20, 21, 6] rfl (by decide +kernel)) ggX12_signed_X12_digits
set_option maxRecDepth 100000 in
theorem ggX12_signed_X12_isIn : GoodIn wsX12_signed wsX12_isIn := goodIn_r _ [40] rfl (by decide +kernel)
set_option maxRecDepth 100000 in
theorem gX12_signed_X12_isIn : GoodIn wsX12_signed (va_wsS RX12 263 yX12_isIn wsX12_isIn) := goodIn_app (goodIn_r _ [38, 39, 6] rfl (by decide +kernel)) ggX12_signed_X12_isIn
set_option maxRecDepth 100000 in
theorem ggX12_signed_X12_faults : GoodIn wsX12_signed wsX12_faults := goodIn_hd (goodIn_c zc_wsX12_signed_in [(1, 11)] rfl (by decide +kernel)) (goodIn_app (goodIn_c zc_wsX12_signed_in [(0, 7), (1, 12)] rfl (by decide +kernel)) (goodIn_sub zB_X12_signed_X120 zgw_X120))
set_option maxRecDepth 100000 in
theorem gX12_signed_X12_faults : GoodIn wsX12_signed (wsV RX12 239 RX12 yX12_faults wsX12_faults) := goodIn_app (goodIn_r _ [33, 34, 35, 6] rfl (by decide +kernel)) ggX12_signed_X12_faults
theorem zB_X12_formatNamed_X120 : ∀ w ∈ wsX120, w ∈ wsX12_formatNamed := fun _ h => List.mem_cons_of_mem _ (List.mem_append_right _ h)
set_option maxRecDepth 100000 in
theorem ggX12_formatNamed_X12_f : GoodIn wsX12_formatNamed wsX12_f := goodIn_hd (goodIn_r _ [8] rfl (by decide +kernel)) (goodIn_app (goodIn_r _ [2] rfl (by decide +kernel)) (goodIn_sub zB_X12_formatNamed_X120 zgw_X120))
set_option maxRecDepth 100000 in
theorem gX12_formatNamed_X12_f : GoodIn wsX12_formatNamed (wsV RX12 267 RX12 yX12_f wsX12_f) := goodIn_app (goodIn_r _ [4, 5, 6, 7] rfl (by decide +kernel)) ggX12_formatNamed_X12_f
theorem zB_X12_numberNamed_X120 : ∀ w ∈ wsX120, w ∈ wsX12_numberNamed := fun _ h => List.mem_cons_of_mem _ (List.mem_append_right _ h)
set_option maxRecDepth 100000 in
theorem ggX12_numberNamed_X12_n : GoodIn wsX12_numberNamed wsX12_n := goodIn_hd (goodIn_r _ [8] rfl (by decide +kernel)) (goodIn_app (goodIn_r _ [2] rfl (by decide +kernel)) (goodIn_sub zB_X12_numberNamed_X120 zgw_X120))
set_option maxRecDepth 100000 in
theorem gX12_numberNamed_X12_n : GoodIn wsX12_numberNamed (wsV RX12 270 RX12 yX12_n wsX12_n) := goodIn_app (goodIn_r _ [4, 5, 6, 7] rfl (by decide +kernel)) ggX12_numberNamed_X12_n
noncomputable def zc_wsX12_newName : List (List Cond) := [wsX12_newName_r1, wsX12_newName_r2, wsX12_newName_r3, wsX120]
set_option maxRecDepth 20000 in
theorem zc_wsX12_newName_in : ∀ l ∈ zc_wsX12_newName, ∀ w ∈ l, w ∈ wsX12_newName := by
  intro l hl
  unfold zc_wsX12_newName at hl
  rcases List.mem_cons.mp hl with e | hl
  · rw [e]
    exact fun w h => List.mem_cons_of_mem _ (List.mem_append_left _ (List.mem_append_left _ h))
  rcases List.mem_cons.mp hl with e | hl
  · rw [e]
    exact fun w h => List.mem_cons_of_mem _ (List.mem_append_left _ (List.mem_append_right _ (List.mem_append_left _ h)))
  rcases List.mem_cons.mp hl with e | hl
  · rw [e]
    exact fun w h => List.mem_cons_of_mem _ (List.mem_append_left _ (List.mem_append_right _ (List.mem_append_right _ h)))
  rcases List.mem_cons.mp hl with e | hl
  · rw [e]
    exact fun w h => List.mem_cons_of_mem _ (List.mem_append_right _ h)
  cases hl
theorem zB_X12_newName_X120 : ∀ w ∈ wsX120, w ∈ wsX12_newName := fun _ h => List.mem_cons_of_mem _ (List.mem_append_right _ h)
set_option maxRecDepth 100000 in
theorem ggX12_newName_X12_name : GoodIn wsX12_newName wsX12_name := goodIn_hd (goodIn_c zc_wsX12_newName_in [(0, 5)] rfl (by decide +kernel)) (goodIn_app (goodIn_app (goodIn_c zc_wsX12_newName_in [(0, 6), (0, 0), (0, 7), (0, 8), (0, 9), (0, 10), (0, 4), (0, 11), (0, 12), (0, 13), (0, 14), (0, 15), (0, 16), (0, 17), (0, 18), (0, 19), (0, 20), (0, 21), (0, 22), (0, 23), (1, 0), (1, 1), (1, 2), (1, 3)] rfl (by decide +kernel)) (goodIn_c zc_wsX12_newName_in [(1, 4), (1, 5), (1, 6), (1, 7), (1, 8), (1, 9), (1, 10), (1, 11), (1, 12), (1, 13), (1, 14), (1, 15), (1, 16), (1, 17), (1, 18), (1, 19)] rfl (by decide +kernel))) (goodIn_sub zB_X12_newName_X120 zgw_X120))
set_option maxRecDepth 100000 in
theorem gX12_newName_X12_name : GoodIn wsX12_newName (wsV RX12 273 RX12 yX12_name wsX12_name) := goodIn_app (goodIn_r _ [2, 3, 4, 5] rfl (by decide +kernel)) ggX12_newName_X12_name
set_option maxRecDepth 100000 in
theorem ggX12_newName_X12_goesWell : GoodIn wsX12_newName wsX12_goesWell := goodIn_hd (goodIn_c zc_wsX12_newName_in [(0, 15)] rfl (by decide +kernel)) (goodIn_app (goodIn_c zc_wsX12_newName_in [(0, 16)] rfl (by decide +kernel)) (goodIn_sub zB_X12_newName_X120 zgw_X120))
set_option maxRecDepth 100000 in
theorem gX12_newName_X12_goesWell : GoodIn wsX12_newName (wsV RX12 231 RX12 yX12_goesWell wsX12_goesWell) := goodIn_app (goodIn_r _ [13, 14, 15, 5] rfl (by decide +kernel)) ggX12_newName_X12_goesWell
set_option maxRecDepth 100000 in
theorem ggX12_newName_X12_formatNamed : GoodIn wsX12_newName wsX12_formatNamed := goodIn_hd (goodIn_c zc_wsX12_newName_in [(1, 23)] rfl (by decide +kernel)) (goodIn_app (goodIn_c zc_wsX12_newName_in [(2, 0), (2, 1), (2, 2), (2, 3), (2, 4), (2, 5), (0, 4), (2, 6)] rfl (by decide +kernel)) (goodIn_sub zB_X12_newName_X120 zgw_X120))
set_option maxRecDepth 100000 in
theorem gX12_newName_X12_formatNamed : GoodIn wsX12_newName (wsV RX12 276 RX12 yX12_formatNamed wsX12_formatNamed) := goodIn_app (goodIn_r _ [45, 46, 47, 5] rfl (by decide +kernel)) ggX12_newName_X12_formatNamed
set_option maxRecDepth 100000 in
theorem ggX12_newName_X12_numberNamed : GoodIn wsX12_newName wsX12_numberNamed := goodIn_hd (goodIn_c zc_wsX12_newName_in [(2, 10)] rfl (by decide +kernel)) (goodIn_app (goodIn_c zc_wsX12_newName_in [(2, 11), (2, 1), (2, 12), (2, 13), (2, 14), (2, 15), (0, 4), (2, 16)] rfl (by decide +kernel)) (goodIn_sub zB_X12_newName_X120 zgw_X120))
set_option maxRecDepth 100000 in
theorem gX12_newName_X12_numberNamed : GoodIn wsX12_newName (wsV RX12 279 RX12 yX12_numberNamed wsX12_numberNamed) := goodIn_app (goodIn_r _ [56, 57, 58, 5] rfl (by decide +kernel)) ggX12_newName_X12_numberNamed
set_option maxRecDepth 100000 in
theorem ggX12_newName_X12_faults : GoodIn wsX12_newName wsX12_faults := goodIn_hd (goodIn_c zc_wsX12_newName_in [(1, 13)] rfl (by decide +kernel)) (goodIn_app (goodIn_c zc_wsX12_newName_in [(0, 16), (1, 14)] rfl (by decide +kernel)) (goodIn_sub zB_X12_newName_X120 zgw_X120))
set_option maxRecDepth 100000 in
theorem gX12_newName_X12_faults : GoodIn wsX12_newName (wsV RX12 239 RX12 yX12_faults wsX12_faults) := goodIn_app (goodIn_r _ [35, 36, 37, 5] rfl (by decide +kernel)) ggX12_newName_X12_faults
noncomputable def zc_wsX12_toldNumber : List (List Cond) := [wsX12_toldNumber_r1, wsX12_toldNumber_r2, wsX12_toldNumber_r3, wsX120]
set_option maxRecDepth 20000 in
theorem zc_wsX12_toldNumber_in : ∀ l ∈ zc_wsX12_toldNumber, ∀ w ∈ l, w ∈ wsX12_toldNumber := by
  intro l hl
  unfold zc_wsX12_toldNumber at hl
  rcases List.mem_cons.mp hl with e | hl
  · rw [e]
    exact fun w h => List.mem_cons_of_mem _ (List.mem_append_left _ (List.mem_append_left _ h))
  rcases List.mem_cons.mp hl with e | hl
  · rw [e]
    exact fun w h => List.mem_cons_of_mem _ (List.mem_append_left _ (List.mem_append_right _ (List.mem_append_left _ h)))
  rcases List.mem_cons.mp hl with e | hl
  · rw [e]
    exact fun w h => List.mem_cons_of_mem _ (List.mem_append_left _ (List.mem_append_right _ (List.mem_append_right _ h)))
  rcases List.mem_cons.mp hl with e | hl
  · rw [e]
    exact fun w h => List.mem_cons_of_mem _ (List.mem_append_right _ h)
  cases hl
theorem zB_X12_toldNumber_X120 : ∀ w ∈ wsX120, w ∈ wsX12_toldNumber := fun _ h => List.mem_cons_of_mem _ (List.mem_append_right _ h)
set_option maxRecDepth 100000 in
theorem ggX12_toldNumber_X12_name : GoodIn wsX12_toldNumber wsX12_name := goodIn_hd (goodIn_c zc_wsX12_toldNumber_in [(0, 5)] rfl (by decide +kernel)) (goodIn_app (goodIn_app (goodIn_c zc_wsX12_toldNumber_in [(0, 6), (0, 0), (0, 7), (0, 8), (0, 9), (0, 10), (0, 4), (0, 11), (0, 12), (0, 13), (0, 14), (0, 15), (0, 16), (0, 17), (0, 18), (0, 19), (0, 20), (0, 21), (0, 22), (0, 23), (1, 0), (1, 1), (1, 2), (1, 3)] rfl (by decide +kernel)) (goodIn_c zc_wsX12_toldNumber_in [(1, 4), (1, 5), (1, 6), (1, 7), (1, 8), (1, 9), (1, 10), (1, 11), (1, 12), (1, 13), (1, 14), (1, 15), (1, 16), (1, 17), (1, 18), (1, 19)] rfl (by decide +kernel))) (goodIn_sub zB_X12_toldNumber_X120 zgw_X120))
set_option maxRecDepth 100000 in
theorem gX12_toldNumber_X12_name : GoodIn wsX12_toldNumber (wsV RX12 273 RX12 yX12_name wsX12_name) := goodIn_app (goodIn_r _ [2, 3, 4, 5] rfl (by decide +kernel)) ggX12_toldNumber_X12_name
set_option maxRecDepth 100000 in
theorem ggX12_toldNumber_X12_goesWell : GoodIn wsX12_toldNumber wsX12_goesWell := goodIn_hd (goodIn_c zc_wsX12_toldNumber_in [(0, 15)] rfl (by decide +kernel)) (goodIn_app (goodIn_c zc_wsX12_toldNumber_in [(0, 16)] rfl (by decide +kernel)) (goodIn_sub zB_X12_toldNumber_X120 zgw_X120))
set_option maxRecDepth 100000 in
theorem gX12_toldNumber_X12_goesWell : GoodIn wsX12_toldNumber (wsV RX12 231 RX12 yX12_goesWell wsX12_goesWell) := goodIn_app (goodIn_r _ [13, 14, 15, 5] rfl (by decide +kernel)) ggX12_toldNumber_X12_goesWell
set_option maxRecDepth 100000 in
theorem ggX12_toldNumber_X12_numberNamed : GoodIn wsX12_toldNumber wsX12_numberNamed := goodIn_hd (goodIn_c zc_wsX12_toldNumber_in [(1, 23)] rfl (by decide +kernel)) (goodIn_app (goodIn_c zc_wsX12_toldNumber_in [(2, 0), (2, 1), (2, 2), (2, 3), (2, 4), (2, 5), (0, 4), (2, 6)] rfl (by decide +kernel)) (goodIn_sub zB_X12_toldNumber_X120 zgw_X120))
set_option maxRecDepth 100000 in
theorem gX12_toldNumber_X12_numberNamed : GoodIn wsX12_toldNumber (wsV RX12 279 RX12 yX12_numberNamed wsX12_numberNamed) := goodIn_app (goodIn_r _ [45, 46, 47, 5] rfl (by decide +kernel)) ggX12_toldNumber_X12_numberNamed
set_option maxRecDepth 100000 in
theorem ggX12_toldNumber_X12_faults : GoodIn wsX12_toldNumber wsX12_faults := goodIn_hd (goodIn_c zc_wsX12_toldNumber_in [(1, 13)] rfl (by decide +kernel)) (goodIn_app (goodIn_c zc_wsX12_toldNumber_in [(0, 16), (1, 14)] rfl (by decide +kernel)) (goodIn_sub zB_X12_toldNumber_X120 zgw_X120))
set_option maxRecDepth 100000 in
theorem gX12_toldNumber_X12_faults : GoodIn wsX12_toldNumber (wsV RX12 239 RX12 yX12_faults wsX12_faults) := goodIn_app (goodIn_r _ [35, 36, 37, 5] rfl (by decide +kernel)) ggX12_toldNumber_X12_faults
noncomputable def zc_wsX12_readsFormat : List (List Cond) := [wsX12_readsFormat_r1, wsX12_readsFormat_r2, wsX12_readsFormat_r3, wsX12_readsFormat_r4, wsX120]
set_option maxRecDepth 20000 in
theorem zc_wsX12_readsFormat_in : ∀ l ∈ zc_wsX12_readsFormat, ∀ w ∈ l, w ∈ wsX12_readsFormat := by
  intro l hl
  unfold zc_wsX12_readsFormat at hl
  rcases List.mem_cons.mp hl with e | hl
  · rw [e]
    exact fun w h => List.mem_cons_of_mem _ (List.mem_append_left _ (List.mem_append_left _ h))
  rcases List.mem_cons.mp hl with e | hl
  · rw [e]
    exact fun w h => List.mem_cons_of_mem _ (List.mem_append_left _ (List.mem_append_right _ (List.mem_append_left _ h)))
  rcases List.mem_cons.mp hl with e | hl
  · rw [e]
    exact fun w h => List.mem_cons_of_mem _ (List.mem_append_left _ (List.mem_append_right _ (List.mem_append_right _ (List.mem_append_left _ h))))
  rcases List.mem_cons.mp hl with e | hl
  · rw [e]
    exact fun w h => List.mem_cons_of_mem _ (List.mem_append_left _ (List.mem_append_right _ (List.mem_append_right _ (List.mem_append_right _ h))))
  rcases List.mem_cons.mp hl with e | hl
  · rw [e]
    exact fun w h => List.mem_cons_of_mem _ (List.mem_append_right _ h)
  cases hl
theorem zB_X12_readsFormat_X120 : ∀ w ∈ wsX120, w ∈ wsX12_readsFormat := fun _ h => List.mem_cons_of_mem _ (List.mem_append_right _ h)
set_option maxRecDepth 100000 in
theorem ggX12_readsFormat_X12_newName : GoodIn wsX12_readsFormat wsX12_newName := goodIn_hd (goodIn_c zc_wsX12_readsFormat_in [(0, 14)] rfl (by decide +kernel)) (goodIn_app (goodIn_app (goodIn_c zc_wsX12_readsFormat_in [(0, 2), (0, 15), (0, 16), (0, 17), (0, 13), (0, 18), (0, 19), (0, 20), (0, 21), (0, 22), (0, 23), (1, 0), (1, 1), (1, 2), (1, 3), (1, 4), (1, 5), (1, 6), (1, 7), (1, 8), (1, 9), (1, 10), (1, 11), (1, 12)] rfl (by decide +kernel)) (goodIn_app (goodIn_c zc_wsX12_readsFormat_in [(1, 13), (1, 14), (1, 15), (1, 16), (1, 17), (1, 18), (1, 19), (1, 20), (1, 21), (1, 22), (1, 23), (2, 0), (2, 1), (2, 2), (2, 3), (2, 4), (2, 5), (2, 6), (2, 7), (2, 8), (2, 9), (2, 10), (2, 11), (2, 12)] rfl (by decide +kernel)) (goodIn_c zc_wsX12_readsFormat_in [(0, 4), (0, 5), (0, 6), (2, 13), (2, 14), (2, 15), (2, 16), (2, 17), (2, 18), (2, 19), (2, 20), (2, 21), (2, 22), (2, 23), (3, 0), (3, 1), (3, 2)] rfl (by decide +kernel)))) (goodIn_sub zB_X12_readsFormat_X120 zgw_X120))
set_option maxRecDepth 100000 in
theorem gX12_readsFormat_X12_newName : GoodIn wsX12_readsFormat (wsV RX12 282 RX12 yX12_newName wsX12_newName) := goodIn_app (goodIn_r _ [11, 12, 13, 14] rfl (by decide +kernel)) ggX12_readsFormat_X12_newName
set_option maxRecDepth 100000 in
theorem ggX12_readsFormat_X12_must : GoodIn wsX12_readsFormat wsX12_must := goodIn_hd (goodIn_c zc_wsX12_readsFormat_in [(3, 6)] rfl (by decide +kernel)) (goodIn_app (goodIn_app (goodIn_c zc_wsX12_readsFormat_in [(0, 2), (0, 21), (0, 22), (0, 23), (0, 13), (1, 0), (0, 19), (1, 1), (1, 2), (1, 3), (1, 4), (1, 5), (1, 6), (1, 7), (1, 8), (1, 9), (1, 10), (1, 11), (1, 12), (1, 13), (1, 14), (0, 20), (1, 15), (1, 16)] rfl (by decide +kernel)) (goodIn_c zc_wsX12_readsFormat_in [(1, 17), (1, 18), (1, 19), (1, 20), (1, 21), (1, 22), (1, 23), (2, 0), (2, 1), (2, 2), (2, 3), (2, 4), (2, 5), (2, 6), (2, 7), (2, 8)] rfl (by decide +kernel))) (goodIn_sub zB_X12_readsFormat_X120 zgw_X120))
set_option maxRecDepth 100000 in
theorem gX12_readsFormat_X12_must : GoodIn wsX12_readsFormat (wsV RX12 285 RX12 yX12_must wsX12_must) := goodIn_app (goodIn_r _ [76, 77, 78, 14] rfl (by decide +kernel)) ggX12_readsFormat_X12_must
set_option maxRecDepth 100000 in
theorem ggX12_readsFormat_X12_number : GoodIn wsX12_readsFormat wsX12_number := goodIn_hd (goodIn_c zc_wsX12_readsFormat_in [(3, 10)] rfl (by decide +kernel)) (goodIn_app (goodIn_app (goodIn_c zc_wsX12_readsFormat_in [(0, 2), (3, 11), (3, 12), (3, 13), (0, 13), (3, 14), (0, 19), (3, 15), (3, 16), (1, 1), (1, 2), (1, 3), (1, 4), (1, 5), (1, 6), (1, 7), (1, 8), (1, 9), (1, 10), (1, 11), (1, 12), (1, 13), (1, 14), (0, 20)] rfl (by decide +kernel)) (goodIn_c zc_wsX12_readsFormat_in [(1, 19), (1, 20), (1, 21), (1, 22), (1, 15), (1, 16), (1, 17), (1, 18), (1, 23), (2, 0), (2, 1), (2, 2), (2, 3), (3, 17), (3, 18), (3, 19)] rfl (by decide +kernel))) (goodIn_sub zB_X12_readsFormat_X120 zgw_X120))
set_option maxRecDepth 100000 in
theorem gX12_readsFormat_X12_number : GoodIn wsX12_readsFormat (wsV RX12 290 RX12 yX12_number wsX12_number) := goodIn_app (goodIn_r _ [80, 81, 82, 14] rfl (by decide +kernel)) ggX12_readsFormat_X12_number
set_option maxRecDepth 100000 in
theorem ggX12_readsFormat_X12_digits : GoodIn wsX12_readsFormat wsX12_digits := goodIn_hd (goodIn_c zc_wsX12_readsFormat_in [(3, 14)] rfl (by decide +kernel)) (goodIn_app (goodIn_app (goodIn_c zc_wsX12_readsFormat_in [(0, 19), (0, 2), (3, 15), (3, 16), (1, 1), (1, 2), (1, 3), (0, 13), (1, 4), (1, 5), (1, 6), (1, 7), (1, 8), (1, 9), (1, 10), (1, 11), (1, 12), (1, 13), (1, 14), (0, 20), (1, 19), (1, 20), (1, 21), (1, 22)] rfl (by decide +kernel)) (goodIn_c zc_wsX12_readsFormat_in [(1, 15), (1, 16), (1, 17), (1, 18), (1, 23), (2, 0), (2, 1), (2, 2), (2, 3)] rfl (by decide +kernel))) (goodIn_sub zB_X12_readsFormat_X120 zgw_X120))
set_option maxRecDepth 100000 in
theorem gX12_readsFormat_X12_digits : GoodIn wsX12_readsFormat (wsV RX12 259 RX12 yX12_digits wsX12_digits) := goodIn_app (goodIn_r _ [84, 85, 86, 14] rfl (by decide +kernel)) ggX12_readsFormat_X12_digits
set_option maxRecDepth 100000 in
theorem ggX12_readsFormat_X12_goesWell : GoodIn wsX12_readsFormat wsX12_goesWell := goodIn_hd (goodIn_c zc_wsX12_readsFormat_in [(1, 4)] rfl (by decide +kernel)) (goodIn_app (goodIn_c zc_wsX12_readsFormat_in [(1, 5)] rfl (by decide +kernel)) (goodIn_sub zB_X12_readsFormat_X120 zgw_X120))
set_option maxRecDepth 100000 in
theorem gX12_readsFormat_X12_goesWell : GoodIn wsX12_readsFormat (wsV RX12 231 RX12 yX12_goesWell wsX12_goesWell) := goodIn_app (goodIn_r _ [26, 27, 28, 14] rfl (by decide +kernel)) ggX12_readsFormat_X12_goesWell
set_option maxRecDepth 100000 in
theorem ggX12_readsFormat_X12_isIn : GoodIn wsX12_readsFormat wsX12_isIn := goodIn_r _ [92] rfl (by decide +kernel)
set_option maxRecDepth 100000 in
theorem gX12_readsFormat_X12_isIn : GoodIn wsX12_readsFormat (va_wsS RX12 263 yX12_isIn wsX12_isIn) := goodIn_app (goodIn_r _ [90, 91, 14] rfl (by decide +kernel)) ggX12_readsFormat_X12_isIn
set_option maxRecDepth 100000 in
theorem ggX12_readsFormat_X12_faults : GoodIn wsX12_readsFormat wsX12_faults := goodIn_hd (goodIn_c zc_wsX12_readsFormat_in [(2, 2)] rfl (by decide +kernel)) (goodIn_app (goodIn_c zc_wsX12_readsFormat_in [(1, 5), (2, 3)] rfl (by decide +kernel)) (goodIn_sub zB_X12_readsFormat_X120 zgw_X120))
set_option maxRecDepth 100000 in
theorem gX12_readsFormat_X12_faults : GoodIn wsX12_readsFormat (wsV RX12 239 RX12 yX12_faults wsX12_faults) := goodIn_app (goodIn_r _ [48, 49, 50, 14] rfl (by decide +kernel)) ggX12_readsFormat_X12_faults
set_option maxRecDepth 100000 in
theorem ggX12_readsFormat_X12_f : GoodIn wsX12_readsFormat wsX12_f := goodIn_hd (goodIn_c zc_wsX12_readsFormat_in [(2, 16)] rfl (by decide +kernel)) (goodIn_app (goodIn_c zc_wsX12_readsFormat_in [(0, 5)] rfl (by decide +kernel)) (goodIn_sub zB_X12_readsFormat_X120 zgw_X120))
set_option maxRecDepth 100000 in
theorem gX12_readsFormat_X12_f : GoodIn wsX12_readsFormat (wsV RX12 267 RX12 yX12_f wsX12_f) := goodIn_app (goodIn_r _ [62, 63, 64, 14] rfl (by decide +kernel)) ggX12_readsFormat_X12_f
theorem zB_X12_newNumber_X120 : ∀ w ∈ wsX120, w ∈ wsX12_newNumber := fun _ h => List.mem_cons_of_mem _ (List.mem_append_right _ h)
set_option maxRecDepth 100000 in
theorem ggX12_newNumber_X12_n : GoodIn wsX12_newNumber wsX12_n := goodIn_hd (goodIn_r _ [14] rfl (by decide +kernel)) (goodIn_app (goodIn_r _ [2] rfl (by decide +kernel)) (goodIn_sub zB_X12_newNumber_X120 zgw_X120))
set_option maxRecDepth 100000 in
theorem gX12_newNumber_X12_n : GoodIn wsX12_newNumber (wsV RX12 270 RX12 yX12_n wsX12_n) := goodIn_app (goodIn_r _ [10, 11, 12, 13] rfl (by decide +kernel)) ggX12_newNumber_X12_n
noncomputable def zc_wsX12_readsInput : List (List Cond) := [wsX12_readsInput_r1, wsX12_readsInput_r2, wsX12_readsInput_r3, wsX12_readsInput_r4, wsX120]
set_option maxRecDepth 20000 in
theorem zc_wsX12_readsInput_in : ∀ l ∈ zc_wsX12_readsInput, ∀ w ∈ l, w ∈ wsX12_readsInput := by
  intro l hl
  unfold zc_wsX12_readsInput at hl
  rcases List.mem_cons.mp hl with e | hl
  · rw [e]
    exact fun w h => List.mem_cons_of_mem _ (List.mem_append_left _ (List.mem_append_left _ h))
  rcases List.mem_cons.mp hl with e | hl
  · rw [e]
    exact fun w h => List.mem_cons_of_mem _ (List.mem_append_left _ (List.mem_append_right _ (List.mem_append_left _ h)))
  rcases List.mem_cons.mp hl with e | hl
  · rw [e]
    exact fun w h => List.mem_cons_of_mem _ (List.mem_append_left _ (List.mem_append_right _ (List.mem_append_right _ (List.mem_append_left _ h))))
  rcases List.mem_cons.mp hl with e | hl
  · rw [e]
    exact fun w h => List.mem_cons_of_mem _ (List.mem_append_left _ (List.mem_append_right _ (List.mem_append_right _ (List.mem_append_right _ h))))
  rcases List.mem_cons.mp hl with e | hl
  · rw [e]
    exact fun w h => List.mem_cons_of_mem _ (List.mem_append_right _ h)
  cases hl
theorem zB_X12_readsInput_X120 : ∀ w ∈ wsX120, w ∈ wsX12_readsInput := fun _ h => List.mem_cons_of_mem _ (List.mem_append_right _ h)
set_option maxRecDepth 100000 in
theorem ggX12_readsInput_X12_newName : GoodIn wsX12_readsInput wsX12_newName := goodIn_hd (goodIn_c zc_wsX12_readsInput_in [(0, 11)] rfl (by decide +kernel)) (goodIn_app (goodIn_app (goodIn_c zc_wsX12_readsInput_in [(0, 2), (0, 12), (0, 13), (0, 14), (0, 10), (0, 15), (0, 16), (0, 17), (0, 18), (0, 19), (0, 20), (0, 21), (0, 22), (0, 23), (1, 0), (1, 1), (1, 2), (1, 3), (1, 4), (1, 5), (1, 6), (1, 7), (1, 8), (1, 9)] rfl (by decide +kernel)) (goodIn_app (goodIn_c zc_wsX12_readsInput_in [(1, 10), (1, 11), (1, 12), (1, 13), (1, 14), (1, 15), (1, 16), (1, 17), (1, 18), (1, 19), (1, 20), (1, 21), (1, 22), (1, 23), (2, 0), (2, 1), (2, 2), (2, 3), (2, 4), (2, 5), (2, 6), (2, 7), (2, 8), (2, 9)] rfl (by decide +kernel)) (goodIn_c zc_wsX12_readsInput_in [(2, 10), (0, 5), (2, 11), (2, 12), (2, 13), (2, 14), (2, 15), (2, 16), (2, 17), (2, 18), (2, 19), (0, 4), (2, 20), (2, 21), (2, 22), (2, 23), (3, 0)] rfl (by decide +kernel)))) (goodIn_sub zB_X12_readsInput_X120 zgw_X120))
set_option maxRecDepth 100000 in
theorem gX12_readsInput_X12_newName : GoodIn wsX12_readsInput (wsV RX12 282 RX12 yX12_newName wsX12_newName) := goodIn_app (goodIn_r _ [8, 9, 10, 11] rfl (by decide +kernel)) ggX12_readsInput_X12_newName
set_option maxRecDepth 100000 in
theorem ggX12_readsInput_X12_signed : GoodIn wsX12_readsInput wsX12_signed := goodIn_hd (goodIn_c zc_wsX12_readsInput_in [(3, 4)] rfl (by decide +kernel)) (goodIn_app (goodIn_app (goodIn_c zc_wsX12_readsInput_in [(0, 16), (0, 2), (0, 22), (0, 23), (1, 0), (0, 10), (1, 1), (1, 2), (1, 3), (1, 4), (1, 5), (1, 6), (1, 7), (1, 8), (1, 9), (1, 10), (1, 11), (0, 17), (3, 5), (3, 6), (3, 7), (3, 8), (3, 9), (3, 10)] rfl (by decide +kernel)) (goodIn_c zc_wsX12_readsInput_in [(1, 16), (1, 17), (1, 18), (1, 19), (1, 12), (1, 13), (1, 14), (1, 15), (1, 20), (1, 21), (1, 22), (1, 23), (2, 0), (3, 11), (3, 12), (3, 13)] rfl (by decide +kernel))) (goodIn_sub zB_X12_readsInput_X120 zgw_X120))
set_option maxRecDepth 100000 in
theorem gX12_readsInput_X12_signed : GoodIn wsX12_readsInput (wsV RX12 302 RX12 yX12_signed wsX12_signed) := goodIn_app (goodIn_r _ [74, 75, 76, 11] rfl (by decide +kernel)) ggX12_readsInput_X12_signed
set_option maxRecDepth 100000 in
theorem ggX12_readsInput_X12_goesWell : GoodIn wsX12_readsInput wsX12_goesWell := goodIn_hd (goodIn_c zc_wsX12_readsInput_in [(1, 1)] rfl (by decide +kernel)) (goodIn_app (goodIn_c zc_wsX12_readsInput_in [(1, 2)] rfl (by decide +kernel)) (goodIn_sub zB_X12_readsInput_X120 zgw_X120))
set_option maxRecDepth 100000 in
theorem gX12_readsInput_X12_goesWell : GoodIn wsX12_readsInput (wsV RX12 231 RX12 yX12_goesWell wsX12_goesWell) := goodIn_app (goodIn_r _ [23, 24, 25, 11] rfl (by decide +kernel)) ggX12_readsInput_X12_goesWell
set_option maxRecDepth 100000 in
theorem ggX12_readsInput_X12_faults : GoodIn wsX12_readsInput wsX12_faults := goodIn_hd (goodIn_c zc_wsX12_readsInput_in [(1, 23)] rfl (by decide +kernel)) (goodIn_app (goodIn_c zc_wsX12_readsInput_in [(1, 2), (2, 0)] rfl (by decide +kernel)) (goodIn_sub zB_X12_readsInput_X120 zgw_X120))
set_option maxRecDepth 100000 in
theorem gX12_readsInput_X12_faults : GoodIn wsX12_readsInput (wsV RX12 239 RX12 yX12_faults wsX12_faults) := goodIn_app (goodIn_r _ [45, 46, 47, 11] rfl (by decide +kernel)) ggX12_readsInput_X12_faults
set_option maxRecDepth 100000 in
theorem ggX12_readsInput_X12_newNumber : GoodIn wsX12_readsInput wsX12_newNumber := goodIn_hd (goodIn_c zc_wsX12_readsInput_in [(3, 17)] rfl (by decide +kernel)) (goodIn_app (goodIn_c zc_wsX12_readsInput_in [(0, 4), (0, 5), (2, 20), (3, 18), (3, 19), (3, 20), (3, 21), (3, 22), (3, 23), (2, 21), (2, 22), (2, 23), (0, 10), (3, 0)] rfl (by decide +kernel)) (goodIn_sub zB_X12_readsInput_X120 zgw_X120))
set_option maxRecDepth 100000 in
theorem gX12_readsInput_X12_newNumber : GoodIn wsX12_readsInput (wsV RX12 305 RX12 yX12_newNumber wsX12_newNumber) := goodIn_app (goodIn_r _ [87, 88, 89, 11] rfl (by decide +kernel)) ggX12_readsInput_X12_newNumber
set_option maxRecDepth 100000 in
theorem ggX12_readsInput_X12_n : GoodIn wsX12_readsInput wsX12_n := goodIn_hd (goodIn_c zc_wsX12_readsInput_in [(3, 0)] rfl (by decide +kernel)) (goodIn_app (goodIn_c zc_wsX12_readsInput_in [(0, 5)] rfl (by decide +kernel)) (goodIn_sub zB_X12_readsInput_X120 zgw_X120))
set_option maxRecDepth 100000 in
theorem gX12_readsInput_X12_n : GoodIn wsX12_readsInput (wsV RX12 270 RX12 yX12_n wsX12_n) := goodIn_app (goodIn_r _ [70, 71, 72, 11] rfl (by decide +kernel)) ggX12_readsInput_X12_n
noncomputable def zc_wsX12_readsWhat : List (List Cond) := [wsX12_readsWhat_r1, wsX12_readsWhat_r2, wsX12_readsWhat_r3, wsX12_readsWhat_r4, wsX120]
set_option maxRecDepth 20000 in
theorem zc_wsX12_readsWhat_in : ∀ l ∈ zc_wsX12_readsWhat, ∀ w ∈ l, w ∈ wsX12_readsWhat := by
  intro l hl
  unfold zc_wsX12_readsWhat at hl
  rcases List.mem_cons.mp hl with e | hl
  · rw [e]
    exact fun w h => List.mem_cons_of_mem _ (List.mem_append_left _ (List.mem_append_left _ h))
  rcases List.mem_cons.mp hl with e | hl
  · rw [e]
    exact fun w h => List.mem_cons_of_mem _ (List.mem_append_left _ (List.mem_append_right _ (List.mem_append_left _ h)))
  rcases List.mem_cons.mp hl with e | hl
  · rw [e]
    exact fun w h => List.mem_cons_of_mem _ (List.mem_append_left _ (List.mem_append_right _ (List.mem_append_right _ (List.mem_append_left _ h))))
  rcases List.mem_cons.mp hl with e | hl
  · rw [e]
    exact fun w h => List.mem_cons_of_mem _ (List.mem_append_left _ (List.mem_append_right _ (List.mem_append_right _ (List.mem_append_right _ h))))
  rcases List.mem_cons.mp hl with e | hl
  · rw [e]
    exact fun w h => List.mem_cons_of_mem _ (List.mem_append_right _ h)
  cases hl
theorem zB_X12_readsWhat_X120 : ∀ w ∈ wsX120, w ∈ wsX12_readsWhat := fun _ h => List.mem_cons_of_mem _ (List.mem_append_right _ h)
set_option maxRecDepth 100000 in
theorem ggX12_readsWhat_X12_goesWell : GoodIn wsX12_readsWhat wsX12_goesWell := goodIn_hd (goodIn_c zc_wsX12_readsWhat_in [(0, 8)] rfl (by decide +kernel)) (goodIn_app (goodIn_c zc_wsX12_readsWhat_in [(0, 9)] rfl (by decide +kernel)) (goodIn_sub zB_X12_readsWhat_X120 zgw_X120))
set_option maxRecDepth 100000 in
theorem gX12_readsWhat_X12_goesWell : GoodIn wsX12_readsWhat (wsV RX12 231 RX12 yX12_goesWell wsX12_goesWell) := goodIn_app (goodIn_r _ [5, 6, 7, 8] rfl (by decide +kernel)) ggX12_readsWhat_X12_goesWell
set_option maxRecDepth 100000 in
theorem ggX12_readsWhat_X12_here : GoodIn wsX12_readsWhat wsX12_here := goodIn_hd (goodIn_c zc_wsX12_readsWhat_in [(0, 13)] rfl (by decide +kernel)) (goodIn_app (goodIn_c zc_wsX12_readsWhat_in [(0, 1), (0, 14), (0, 15), (0, 16), (0, 7), (0, 17), (0, 18), (0, 19)] rfl (by decide +kernel)) (goodIn_sub zB_X12_readsWhat_X120 zgw_X120))
set_option maxRecDepth 100000 in
theorem gX12_readsWhat_X12_here : GoodIn wsX12_readsWhat (wsV RX12 235 RX12 yX12_here wsX12_here) := goodIn_app (goodIn_r _ [11, 12, 13, 8] rfl (by decide +kernel)) ggX12_readsWhat_X12_here
set_option maxRecDepth 100000 in
theorem ggX12_readsWhat_X12_isDigit : GoodIn wsX12_readsWhat wsX12_isDigit := goodIn_hd (goodIn_c zc_wsX12_readsWhat_in [(0, 23)] rfl (by decide +kernel)) (goodIn_app (goodIn_c zc_wsX12_readsWhat_in [(0, 14), (0, 15), (0, 16), (0, 7), (0, 17), (0, 18), (0, 19)] rfl (by decide +kernel)) (goodIn_sub zB_X12_readsWhat_X120 zgw_X120))
set_option maxRecDepth 100000 in
theorem gX12_readsWhat_X12_isDigit : GoodIn wsX12_readsWhat (wsV RX12 246 RX12 yX12_isDigit wsX12_isDigit) := goodIn_app (goodIn_r _ [21, 22, 23, 8] rfl (by decide +kernel)) ggX12_readsWhat_X12_isDigit
set_option maxRecDepth 100000 in
theorem ggX12_readsWhat_X12_signed : GoodIn wsX12_readsWhat wsX12_signed := goodIn_hd (goodIn_c zc_wsX12_readsWhat_in [(1, 3)] rfl (by decide +kernel)) (goodIn_app (goodIn_app (goodIn_c zc_wsX12_readsWhat_in [(0, 1), (1, 4), (0, 4), (0, 5), (0, 6), (0, 7), (0, 8), (0, 9), (0, 10), (0, 11), (0, 12), (0, 13), (0, 14), (0, 15), (0, 16), (0, 17), (0, 18), (0, 19), (1, 5), (1, 6), (1, 7), (1, 8), (1, 9), (1, 10)] rfl (by decide +kernel)) (goodIn_c zc_wsX12_readsWhat_in [(0, 20), (0, 21), (0, 22), (0, 23), (1, 11), (1, 12), (1, 13), (1, 14), (1, 15), (1, 16), (1, 17), (1, 18), (1, 19), (1, 20), (1, 21), (1, 22)] rfl (by decide +kernel))) (goodIn_sub zB_X12_readsWhat_X120 zgw_X120))
set_option maxRecDepth 100000 in
theorem gX12_readsWhat_X12_signed : GoodIn wsX12_readsWhat (wsV RX12 302 RX12 yX12_signed wsX12_signed) := goodIn_app (goodIn_r _ [25, 26, 27, 8] rfl (by decide +kernel)) ggX12_readsWhat_X12_signed
set_option maxRecDepth 100000 in
theorem ggX12_readsWhat_X12_toldNumber : GoodIn wsX12_readsWhat wsX12_toldNumber := goodIn_hd (goodIn_c zc_wsX12_readsWhat_in [(2, 2)] rfl (by decide +kernel)) (goodIn_app (goodIn_app (goodIn_c zc_wsX12_readsWhat_in [(1, 4), (2, 3), (2, 4), (2, 5), (0, 7), (2, 6), (0, 1), (0, 19), (2, 7), (2, 8), (2, 9), (2, 10), (0, 4), (0, 5), (0, 6), (0, 8), (0, 9), (0, 10), (0, 11), (0, 12), (0, 13), (0, 14), (0, 15), (0, 16)] rfl (by decide +kernel)) (goodIn_app (goodIn_c zc_wsX12_readsWhat_in [(0, 17), (0, 18), (1, 11), (1, 12), (1, 13), (1, 14), (0, 20), (0, 21), (0, 22), (0, 23), (1, 15), (1, 16), (1, 17), (1, 18), (1, 19), (2, 11), (2, 12), (2, 13), (2, 14), (2, 15), (2, 16), (2, 17), (2, 18), (2, 19)] rfl (by decide +kernel)) (goodIn_c zc_wsX12_readsWhat_in [(2, 20), (2, 21), (2, 22), (2, 23), (3, 0), (3, 1), (3, 2)] rfl (by decide +kernel)))) (goodIn_sub zB_X12_readsWhat_X120 zgw_X120))
set_option maxRecDepth 100000 in
theorem gX12_readsWhat_X12_toldNumber : GoodIn wsX12_readsWhat (wsV RX12 310 RX12 yX12_toldNumber wsX12_toldNumber) := goodIn_app (goodIn_r _ [48, 49, 50, 8] rfl (by decide +kernel)) ggX12_readsWhat_X12_toldNumber
noncomputable def zc_wsX12_readsOp : List (List Cond) := [wsX12_readsOp_r1, wsX12_readsOp_r2, wsX120]
set_option maxRecDepth 20000 in
theorem zc_wsX12_readsOp_in : ∀ l ∈ zc_wsX12_readsOp, ∀ w ∈ l, w ∈ wsX12_readsOp := by
  intro l hl
  unfold zc_wsX12_readsOp at hl
  rcases List.mem_cons.mp hl with e | hl
  · rw [e]
    exact fun w h => List.mem_cons_of_mem _ (List.mem_append_left _ (List.mem_append_left _ h))
  rcases List.mem_cons.mp hl with e | hl
  · rw [e]
    exact fun w h => List.mem_cons_of_mem _ (List.mem_append_left _ (List.mem_append_right _ h))
  rcases List.mem_cons.mp hl with e | hl
  · rw [e]
    exact fun w h => List.mem_cons_of_mem _ (List.mem_append_right _ h)
  cases hl
theorem zB_X12_readsOp_X120 : ∀ w ∈ wsX120, w ∈ wsX12_readsOp := fun _ h => List.mem_cons_of_mem _ (List.mem_append_right _ h)
set_option maxRecDepth 100000 in
theorem ggX12_readsOp_X12_goesWell : GoodIn wsX12_readsOp wsX12_goesWell := goodIn_hd (goodIn_c zc_wsX12_readsOp_in [(0, 6)] rfl (by decide +kernel)) (goodIn_app (goodIn_c zc_wsX12_readsOp_in [(0, 7)] rfl (by decide +kernel)) (goodIn_sub zB_X12_readsOp_X120 zgw_X120))
set_option maxRecDepth 100000 in
theorem gX12_readsOp_X12_goesWell : GoodIn wsX12_readsOp (wsV RX12 231 RX12 yX12_goesWell wsX12_goesWell) := goodIn_app (goodIn_r _ [3, 4, 5, 6] rfl (by decide +kernel)) ggX12_readsOp_X12_goesWell
set_option maxRecDepth 100000 in
theorem ggX12_readsOp_X12_here : GoodIn wsX12_readsOp wsX12_here := goodIn_hd (goodIn_c zc_wsX12_readsOp_in [(0, 11)] rfl (by decide +kernel)) (goodIn_app (goodIn_c zc_wsX12_readsOp_in [(0, 0), (0, 12), (0, 13), (0, 14), (0, 5), (0, 15), (0, 16), (0, 17)] rfl (by decide +kernel)) (goodIn_sub zB_X12_readsOp_X120 zgw_X120))
set_option maxRecDepth 100000 in
theorem gX12_readsOp_X12_here : GoodIn wsX12_readsOp (wsV RX12 235 RX12 yX12_here wsX12_here) := goodIn_app (goodIn_r _ [9, 10, 11, 6] rfl (by decide +kernel)) ggX12_readsOp_X12_here
set_option maxRecDepth 100000 in
theorem ggX12_readsOp_X12_word : GoodIn wsX12_readsOp wsX12_word := goodIn_hd (goodIn_c zc_wsX12_readsOp_in [(0, 21)] rfl (by decide +kernel)) (goodIn_app (goodIn_app (goodIn_c zc_wsX12_readsOp_in [(0, 0), (0, 1), (0, 2), (0, 3), (0, 4), (0, 5), (0, 6), (0, 7), (0, 8), (0, 9), (0, 10), (0, 11), (0, 12), (0, 13), (0, 14), (0, 15), (0, 16), (0, 17), (0, 22), (0, 23), (1, 0), (1, 1), (1, 2), (1, 3)] rfl (by decide +kernel)) (goodIn_c zc_wsX12_readsOp_in [(1, 4), (1, 5), (1, 6), (1, 7), (1, 8), (1, 9), (1, 10)] rfl (by decide +kernel))) (goodIn_sub zB_X12_readsOp_X120 zgw_X120))
set_option maxRecDepth 100000 in
theorem gX12_readsOp_X12_word : GoodIn wsX12_readsOp (wsV RX12 249 RX12 yX12_word wsX12_word) := goodIn_app (goodIn_r _ [19, 20, 21, 6] rfl (by decide +kernel)) ggX12_readsOp_X12_word
set_option maxRecDepth 100000 in
theorem ggX12_readsOp_X12_own : GoodIn wsX12_readsOp wsX12_own := goodIn_hd (goodIn_c zc_wsX12_readsOp_in [(1, 14)] rfl (by decide +kernel)) (goodIn_app (goodIn_c zc_wsX12_readsOp_in [(1, 15), (0, 1), (0, 0), (0, 17)] rfl (by decide +kernel)) (goodIn_sub zB_X12_readsOp_X120 zgw_X120))
set_option maxRecDepth 100000 in
theorem gX12_readsOp_X12_own : GoodIn wsX12_readsOp (wsV RX12 252 RX12 yX12_own wsX12_own) := goodIn_app (goodIn_r _ [36, 37, 38, 6] rfl (by decide +kernel)) ggX12_readsOp_X12_own
set_option maxRecDepth 100000 in
theorem ggX12_readsOp_X12_faults : GoodIn wsX12_readsOp wsX12_faults := goodIn_hd (goodIn_c zc_wsX12_readsOp_in [(1, 9)] rfl (by decide +kernel)) (goodIn_app (goodIn_c zc_wsX12_readsOp_in [(0, 7), (1, 10)] rfl (by decide +kernel)) (goodIn_sub zB_X12_readsOp_X120 zgw_X120))
set_option maxRecDepth 100000 in
theorem gX12_readsOp_X12_faults : GoodIn wsX12_readsOp (wsV RX12 239 RX12 yX12_faults wsX12_faults) := goodIn_app (goodIn_r _ [31, 32, 33, 6] rfl (by decide +kernel)) ggX12_readsOp_X12_faults
noncomputable def zc_wsX12_readsLet : List (List Cond) := [wsX12_readsLet_r1, wsX12_readsLet_r2, wsX12_readsLet_r3, wsX12_readsLet_r4, wsX12_readsLet_r5, wsX120]
set_option maxRecDepth 20000 in
theorem zc_wsX12_readsLet_in : ∀ l ∈ zc_wsX12_readsLet, ∀ w ∈ l, w ∈ wsX12_readsLet := by
  intro l hl
  unfold zc_wsX12_readsLet at hl
  rcases List.mem_cons.mp hl with e | hl
  · rw [e]
    exact fun w h => List.mem_cons_of_mem _ (List.mem_append_left _ (List.mem_append_left _ h))
  rcases List.mem_cons.mp hl with e | hl
  · rw [e]
    exact fun w h => List.mem_cons_of_mem _ (List.mem_append_left _ (List.mem_append_right _ (List.mem_append_left _ h)))
  rcases List.mem_cons.mp hl with e | hl
  · rw [e]
    exact fun w h => List.mem_cons_of_mem _ (List.mem_append_left _ (List.mem_append_right _ (List.mem_append_right _ (List.mem_append_left _ h))))
  rcases List.mem_cons.mp hl with e | hl
  · rw [e]
    exact fun w h => List.mem_cons_of_mem _ (List.mem_append_left _ (List.mem_append_right _ (List.mem_append_right _ (List.mem_append_right _ (List.mem_append_left _ h)))))
  rcases List.mem_cons.mp hl with e | hl
  · rw [e]
    exact fun w h => List.mem_cons_of_mem _ (List.mem_append_left _ (List.mem_append_right _ (List.mem_append_right _ (List.mem_append_right _ (List.mem_append_right _ h)))))
  rcases List.mem_cons.mp hl with e | hl
  · rw [e]
    exact fun w h => List.mem_cons_of_mem _ (List.mem_append_right _ h)
  cases hl
theorem zB_X12_readsLet_X120 : ∀ w ∈ wsX120, w ∈ wsX12_readsLet := fun _ h => List.mem_cons_of_mem _ (List.mem_append_right _ h)
set_option maxRecDepth 100000 in
theorem ggX12_readsLet_X12_newName : GoodIn wsX12_readsLet wsX12_newName := goodIn_hd (goodIn_c zc_wsX12_readsLet_in [(0, 11)] rfl (by decide +kernel)) (goodIn_app (goodIn_app (goodIn_c zc_wsX12_readsLet_in [(0, 12), (0, 13), (0, 14), (0, 15), (0, 10), (0, 16), (0, 17), (0, 18), (0, 19), (0, 20), (0, 21), (0, 22), (0, 23), (1, 0), (1, 1), (1, 2), (1, 3), (1, 4), (1, 5), (1, 6), (1, 7), (1, 8), (1, 9), (1, 10)] rfl (by decide +kernel)) (goodIn_app (goodIn_c zc_wsX12_readsLet_in [(1, 11), (1, 12), (1, 13), (1, 14), (1, 15), (1, 16), (1, 17), (1, 18), (1, 19), (1, 20), (1, 21), (1, 22), (1, 23), (2, 0), (2, 1), (2, 2), (2, 3), (2, 4), (2, 5), (2, 6), (2, 7), (2, 8), (2, 9), (2, 10)] rfl (by decide +kernel)) (goodIn_c zc_wsX12_readsLet_in [(2, 11), (0, 2), (2, 12), (2, 13), (2, 14), (2, 15), (2, 16), (2, 17), (2, 18), (2, 19), (2, 20), (0, 1), (2, 21), (2, 22), (2, 23), (3, 0), (3, 1)] rfl (by decide +kernel)))) (goodIn_sub zB_X12_readsLet_X120 zgw_X120))
set_option maxRecDepth 100000 in
theorem gX12_readsLet_X12_newName : GoodIn wsX12_readsLet (wsV RX12 282 RX12 yX12_newName wsX12_newName) := goodIn_app (goodIn_r _ [8, 9, 10, 11] rfl (by decide +kernel)) ggX12_readsLet_X12_newName
set_option maxRecDepth 100000 in
theorem ggX12_readsLet_X12_mark : GoodIn wsX12_readsLet wsX12_mark := goodIn_hd (goodIn_c zc_wsX12_readsLet_in [(3, 5)] rfl (by decide +kernel)) (goodIn_app (goodIn_c zc_wsX12_readsLet_in [(0, 17), (0, 23), (1, 0), (1, 1), (0, 10), (1, 2), (1, 3), (1, 4), (1, 5), (1, 6), (1, 7), (1, 8), (1, 9), (1, 10), (1, 11), (1, 12), (0, 18), (1, 21), (1, 22), (1, 23), (2, 0), (2, 1)] rfl (by decide +kernel)) (goodIn_sub zB_X12_readsLet_X120 zgw_X120))
set_option maxRecDepth 100000 in
theorem gX12_readsLet_X12_mark : GoodIn wsX12_readsLet (wsV RX12 313 RX12 yX12_mark wsX12_mark) := goodIn_app (goodIn_r _ [75, 76, 77, 11] rfl (by decide +kernel)) ggX12_readsLet_X12_mark
set_option maxRecDepth 100000 in
theorem ggX12_readsLet_X12_readsWhat : GoodIn wsX12_readsLet wsX12_readsWhat := goodIn_hd (goodIn_c zc_wsX12_readsLet_in [(3, 9)] rfl (by decide +kernel)) (goodIn_app (goodIn_app (goodIn_c zc_wsX12_readsLet_in [(0, 0), (0, 17), (3, 10), (3, 11), (0, 23), (1, 0), (1, 1), (0, 10), (1, 2), (1, 3), (1, 4), (1, 5), (1, 6), (1, 7), (1, 8), (1, 9), (1, 10), (1, 11), (1, 12), (0, 18), (1, 17), (1, 18), (1, 19), (1, 20)] rfl (by decide +kernel)) (goodIn_app (goodIn_c zc_wsX12_readsLet_in [(3, 12), (3, 13), (3, 14), (3, 15), (0, 12), (3, 16), (3, 17), (3, 18), (3, 19), (3, 20), (3, 21), (1, 13), (1, 14), (1, 15), (1, 16), (1, 21), (1, 22), (1, 23), (2, 0), (2, 1), (3, 22), (3, 23), (4, 0), (4, 1)] rfl (by decide +kernel)) (goodIn_app (goodIn_c zc_wsX12_readsLet_in [(4, 2), (4, 3), (4, 4), (0, 13), (0, 14), (0, 15), (0, 16), (0, 19), (0, 20), (0, 21), (0, 22), (2, 2), (2, 3), (2, 4), (2, 5), (2, 6), (2, 17), (2, 18), (2, 19), (2, 20), (0, 1), (0, 2), (2, 21), (2, 22)] rfl (by decide +kernel)) (goodIn_c zc_wsX12_readsLet_in [(2, 23), (3, 0), (3, 1)] rfl (by decide +kernel))))) (goodIn_sub zB_X12_readsLet_X120 zgw_X120))
set_option maxRecDepth 100000 in
theorem gX12_readsLet_X12_readsWhat : GoodIn wsX12_readsLet (wsV RX12 316 RX12 yX12_readsWhat wsX12_readsWhat) := goodIn_app (goodIn_r _ [79, 80, 81, 11] rfl (by decide +kernel)) ggX12_readsLet_X12_readsWhat
set_option maxRecDepth 100000 in
theorem ggX12_readsLet_X12_readsOp : GoodIn wsX12_readsLet wsX12_readsOp := goodIn_hd (goodIn_c zc_wsX12_readsLet_in [(4, 8)] rfl (by decide +kernel)) (goodIn_app (goodIn_app (goodIn_c zc_wsX12_readsLet_in [(0, 17), (0, 12), (0, 23), (1, 0), (1, 1), (0, 10), (1, 2), (1, 3), (1, 4), (1, 5), (1, 6), (1, 7), (1, 8), (1, 9), (1, 10), (1, 11), (1, 12), (0, 18), (0, 19), (0, 20), (0, 21), (0, 22), (1, 13), (1, 14)] rfl (by decide +kernel)) (goodIn_c zc_wsX12_readsLet_in [(1, 15), (1, 16), (1, 17), (1, 18), (1, 19), (1, 20), (1, 21), (1, 22), (1, 23), (2, 0), (2, 1), (2, 2), (2, 3), (2, 4), (2, 5), (2, 6)] rfl (by decide +kernel))) (goodIn_sub zB_X12_readsLet_X120 zgw_X120))
set_option maxRecDepth 100000 in
theorem gX12_readsLet_X12_readsOp : GoodIn wsX12_readsLet (wsV RX12 319 RX12 yX12_readsOp wsX12_readsOp) := goodIn_app (goodIn_r _ [102, 103, 104, 11] rfl (by decide +kernel)) ggX12_readsLet_X12_readsOp
set_option maxRecDepth 100000 in
theorem ggX12_readsLet_X12_goesWell : GoodIn wsX12_readsLet wsX12_goesWell := goodIn_hd (goodIn_c zc_wsX12_readsLet_in [(1, 2)] rfl (by decide +kernel)) (goodIn_app (goodIn_c zc_wsX12_readsLet_in [(1, 3)] rfl (by decide +kernel)) (goodIn_sub zB_X12_readsLet_X120 zgw_X120))
set_option maxRecDepth 100000 in
theorem gX12_readsLet_X12_goesWell : GoodIn wsX12_readsLet (wsV RX12 231 RX12 yX12_goesWell wsX12_goesWell) := goodIn_app (goodIn_r _ [24, 25, 26, 11] rfl (by decide +kernel)) ggX12_readsLet_X12_goesWell
set_option maxRecDepth 100000 in
theorem ggX12_readsLet_X12_newNumber : GoodIn wsX12_readsLet wsX12_newNumber := goodIn_hd (goodIn_c zc_wsX12_readsLet_in [(4, 12)] rfl (by decide +kernel)) (goodIn_app (goodIn_c zc_wsX12_readsLet_in [(0, 1), (0, 2), (2, 21), (4, 13), (0, 3), (0, 5), (4, 14), (4, 15), (4, 16), (2, 22), (2, 23), (3, 0), (0, 10), (3, 1)] rfl (by decide +kernel)) (goodIn_sub zB_X12_readsLet_X120 zgw_X120))
set_option maxRecDepth 100000 in
theorem gX12_readsLet_X12_newNumber : GoodIn wsX12_readsLet (wsV RX12 305 RX12 yX12_newNumber wsX12_newNumber) := goodIn_app (goodIn_r _ [106, 107, 108, 11] rfl (by decide +kernel)) ggX12_readsLet_X12_newNumber
set_option maxRecDepth 100000 in
theorem ggX12_readsLet_X12_n : GoodIn wsX12_readsLet wsX12_n := goodIn_hd (goodIn_c zc_wsX12_readsLet_in [(3, 1)] rfl (by decide +kernel)) (goodIn_app (goodIn_c zc_wsX12_readsLet_in [(0, 2)] rfl (by decide +kernel)) (goodIn_sub zB_X12_readsLet_X120 zgw_X120))
set_option maxRecDepth 100000 in
theorem gX12_readsLet_X12_n : GoodIn wsX12_readsLet (wsV RX12 270 RX12 yX12_n wsX12_n) := goodIn_app (goodIn_r _ [71, 72, 73, 11] rfl (by decide +kernel)) ggX12_readsLet_X12_n
noncomputable def zc_wsX12_readsFixed : List (List Cond) := [wsX12_readsFixed_r1, wsX12_readsFixed_r2, wsX12_readsFixed_r3, wsX120]
set_option maxRecDepth 20000 in
theorem zc_wsX12_readsFixed_in : ∀ l ∈ zc_wsX12_readsFixed, ∀ w ∈ l, w ∈ wsX12_readsFixed := by
  intro l hl
  unfold zc_wsX12_readsFixed at hl
  rcases List.mem_cons.mp hl with e | hl
  · rw [e]
    exact fun w h => List.mem_cons_of_mem _ (List.mem_append_left _ (List.mem_append_left _ h))
  rcases List.mem_cons.mp hl with e | hl
  · rw [e]
    exact fun w h => List.mem_cons_of_mem _ (List.mem_append_left _ (List.mem_append_right _ (List.mem_append_left _ h)))
  rcases List.mem_cons.mp hl with e | hl
  · rw [e]
    exact fun w h => List.mem_cons_of_mem _ (List.mem_append_left _ (List.mem_append_right _ (List.mem_append_right _ h)))
  rcases List.mem_cons.mp hl with e | hl
  · rw [e]
    exact fun w h => List.mem_cons_of_mem _ (List.mem_append_right _ h)
  cases hl
theorem zB_X12_readsFixed_X120 : ∀ w ∈ wsX120, w ∈ wsX12_readsFixed := fun _ h => List.mem_cons_of_mem _ (List.mem_append_right _ h)
set_option maxRecDepth 100000 in
theorem ggX12_readsFixed_X12_toldNumber : GoodIn wsX12_readsFixed wsX12_toldNumber := goodIn_hd (goodIn_c zc_wsX12_readsFixed_in [(0, 6)] rfl (by decide +kernel)) (goodIn_app (goodIn_app (goodIn_c zc_wsX12_readsFixed_in [(0, 0), (0, 7), (0, 8), (0, 9), (0, 5), (0, 10), (0, 11), (0, 12), (0, 13), (0, 14), (0, 15), (0, 16), (0, 17), (0, 18), (0, 19), (0, 20), (0, 21), (0, 22), (0, 23), (1, 0), (1, 1), (1, 2), (1, 3), (1, 4)] rfl (by decide +kernel)) (goodIn_app (goodIn_c zc_wsX12_readsFixed_in [(1, 5), (1, 6), (1, 7), (1, 8), (1, 9), (1, 10), (1, 11), (1, 12), (1, 13), (1, 14), (1, 15), (1, 16), (1, 17), (1, 18), (1, 19), (1, 20), (1, 21), (1, 22), (1, 23), (2, 0), (2, 1), (2, 2), (2, 3), (2, 4)] rfl (by decide +kernel)) (goodIn_c zc_wsX12_readsFixed_in [(2, 5), (2, 6), (2, 7), (2, 8), (2, 9), (2, 10), (2, 11)] rfl (by decide +kernel)))) (goodIn_sub zB_X12_readsFixed_X120 zgw_X120))
set_option maxRecDepth 100000 in
theorem gX12_readsFixed_X12_toldNumber : GoodIn wsX12_readsFixed (wsV RX12 310 RX12 yX12_toldNumber wsX12_toldNumber) := goodIn_app (goodIn_r _ [3, 4, 5, 6] rfl (by decide +kernel)) ggX12_readsFixed_X12_toldNumber
set_option maxRecDepth 100000 in
theorem ggX12_readsFixed_X12_name : GoodIn wsX12_readsFixed wsX12_name := goodIn_hd (goodIn_c zc_wsX12_readsFixed_in [(0, 10)] rfl (by decide +kernel)) (goodIn_app (goodIn_app (goodIn_c zc_wsX12_readsFixed_in [(0, 11), (0, 0), (0, 12), (0, 13), (0, 14), (0, 15), (0, 5), (0, 16), (0, 17), (0, 18), (0, 19), (0, 20), (0, 21), (0, 22), (0, 23), (1, 0), (1, 1), (1, 2), (1, 3), (1, 4), (1, 5), (1, 6), (1, 7), (1, 8)] rfl (by decide +kernel)) (goodIn_c zc_wsX12_readsFixed_in [(1, 9), (1, 10), (1, 11), (1, 12), (1, 13), (1, 14), (1, 15), (1, 16), (1, 17), (1, 18), (1, 19), (1, 20), (1, 21), (1, 22), (1, 23), (2, 0)] rfl (by decide +kernel))) (goodIn_sub zB_X12_readsFixed_X120 zgw_X120))
set_option maxRecDepth 100000 in
theorem gX12_readsFixed_X12_name : GoodIn wsX12_readsFixed (wsV RX12 273 RX12 yX12_name wsX12_name) := goodIn_app (goodIn_r _ [8, 9, 10, 6] rfl (by decide +kernel)) ggX12_readsFixed_X12_name
set_option maxRecDepth 100000 in
theorem ggX12_readsFixed_X12_goesWell : GoodIn wsX12_readsFixed wsX12_goesWell := goodIn_hd (goodIn_c zc_wsX12_readsFixed_in [(0, 20)] rfl (by decide +kernel)) (goodIn_app (goodIn_c zc_wsX12_readsFixed_in [(0, 21)] rfl (by decide +kernel)) (goodIn_sub zB_X12_readsFixed_X120 zgw_X120))
set_option maxRecDepth 100000 in
theorem gX12_readsFixed_X12_goesWell : GoodIn wsX12_readsFixed (wsV RX12 231 RX12 yX12_goesWell wsX12_goesWell) := goodIn_app (goodIn_r _ [18, 19, 20, 6] rfl (by decide +kernel)) ggX12_readsFixed_X12_goesWell
set_option maxRecDepth 100000 in
theorem ggX12_readsFixed_X12_formatNamed : GoodIn wsX12_readsFixed wsX12_formatNamed := goodIn_hd (goodIn_c zc_wsX12_readsFixed_in [(2, 15)] rfl (by decide +kernel)) (goodIn_app (goodIn_c zc_wsX12_readsFixed_in [(2, 16), (2, 6), (2, 17), (2, 18), (2, 19), (2, 20), (0, 5), (2, 21)] rfl (by decide +kernel)) (goodIn_sub zB_X12_readsFixed_X120 zgw_X120))
set_option maxRecDepth 100000 in
theorem gX12_readsFixed_X12_formatNamed : GoodIn wsX12_readsFixed (wsV RX12 276 RX12 yX12_formatNamed wsX12_formatNamed) := goodIn_app (goodIn_r _ [61, 62, 63, 6] rfl (by decide +kernel)) ggX12_readsFixed_X12_formatNamed
set_option maxRecDepth 100000 in
theorem ggX12_readsFixed_X12_faults : GoodIn wsX12_readsFixed wsX12_faults := goodIn_hd (goodIn_c zc_wsX12_readsFixed_in [(1, 18)] rfl (by decide +kernel)) (goodIn_app (goodIn_c zc_wsX12_readsFixed_in [(0, 21), (1, 19)] rfl (by decide +kernel)) (goodIn_sub zB_X12_readsFixed_X120 zgw_X120))
set_option maxRecDepth 100000 in
theorem gX12_readsFixed_X12_faults : GoodIn wsX12_readsFixed (wsV RX12 239 RX12 yX12_faults wsX12_faults) := goodIn_app (goodIn_r _ [40, 41, 42, 6] rfl (by decide +kernel)) ggX12_readsFixed_X12_faults
set_option maxRecDepth 100000 in
theorem ggX12_readsFixed_X12_n : GoodIn wsX12_readsFixed wsX12_n := goodIn_hd (goodIn_c zc_wsX12_readsFixed_in [(2, 11)] rfl (by decide +kernel)) (goodIn_app (goodIn_c zc_wsX12_readsFixed_in [(2, 6)] rfl (by decide +kernel)) (goodIn_sub zB_X12_readsFixed_X120 zgw_X120))
set_option maxRecDepth 100000 in
theorem gX12_readsFixed_X12_n : GoodIn wsX12_readsFixed (wsV RX12 270 RX12 yX12_n wsX12_n) := goodIn_app (goodIn_r _ [57, 58, 59, 6] rfl (by decide +kernel)) ggX12_readsFixed_X12_n
noncomputable def zc_wsX12_readsGroup : List (List Cond) := [wsX12_readsGroup_r1, wsX12_readsGroup_r2, wsX12_readsGroup_r3, wsX120]
set_option maxRecDepth 20000 in
theorem zc_wsX12_readsGroup_in : ∀ l ∈ zc_wsX12_readsGroup, ∀ w ∈ l, w ∈ wsX12_readsGroup := by
  intro l hl
  unfold zc_wsX12_readsGroup at hl
  rcases List.mem_cons.mp hl with e | hl
  · rw [e]
    exact fun w h => List.mem_cons_of_mem _ (List.mem_append_left _ (List.mem_append_left _ h))
  rcases List.mem_cons.mp hl with e | hl
  · rw [e]
    exact fun w h => List.mem_cons_of_mem _ (List.mem_append_left _ (List.mem_append_right _ (List.mem_append_left _ h)))
  rcases List.mem_cons.mp hl with e | hl
  · rw [e]
    exact fun w h => List.mem_cons_of_mem _ (List.mem_append_left _ (List.mem_append_right _ (List.mem_append_right _ h)))
  rcases List.mem_cons.mp hl with e | hl
  · rw [e]
    exact fun w h => List.mem_cons_of_mem _ (List.mem_append_right _ h)
  cases hl
theorem zB_X12_readsGroup_X120 : ∀ w ∈ wsX120, w ∈ wsX12_readsGroup := fun _ h => List.mem_cons_of_mem _ (List.mem_append_right _ h)
set_option maxRecDepth 100000 in
theorem ggX12_readsGroup_X12_toldNumber : GoodIn wsX12_readsGroup wsX12_toldNumber := goodIn_hd (goodIn_c zc_wsX12_readsGroup_in [(0, 8)] rfl (by decide +kernel)) (goodIn_app (goodIn_app (goodIn_c zc_wsX12_readsGroup_in [(0, 0), (0, 9), (0, 10), (0, 11), (0, 7), (0, 12), (0, 13), (0, 14), (0, 15), (0, 16), (0, 17), (0, 18), (0, 19), (0, 20), (0, 21), (0, 22), (0, 23), (1, 0), (1, 1), (1, 2), (1, 3), (1, 4), (1, 5), (1, 6)] rfl (by decide +kernel)) (goodIn_app (goodIn_c zc_wsX12_readsGroup_in [(1, 7), (1, 8), (1, 9), (1, 10), (1, 11), (1, 12), (1, 13), (1, 14), (1, 15), (1, 16), (1, 17), (1, 18), (1, 19), (1, 20), (1, 21), (1, 22), (1, 23), (2, 0), (2, 1), (2, 2), (2, 3), (2, 4), (2, 5), (2, 6)] rfl (by decide +kernel)) (goodIn_c zc_wsX12_readsGroup_in [(0, 2), (0, 3), (2, 7), (2, 8), (2, 9), (2, 10), (2, 11)] rfl (by decide +kernel)))) (goodIn_sub zB_X12_readsGroup_X120 zgw_X120))
set_option maxRecDepth 100000 in
theorem gX12_readsGroup_X12_toldNumber : GoodIn wsX12_readsGroup (wsV RX12 310 RX12 yX12_toldNumber wsX12_toldNumber) := goodIn_app (goodIn_r _ [5, 6, 7, 8] rfl (by decide +kernel)) ggX12_readsGroup_X12_toldNumber
set_option maxRecDepth 100000 in
theorem ggX12_readsGroup_X12_goesWell : GoodIn wsX12_readsGroup wsX12_goesWell := goodIn_hd (goodIn_c zc_wsX12_readsGroup_in [(0, 22)] rfl (by decide +kernel)) (goodIn_app (goodIn_c zc_wsX12_readsGroup_in [(0, 23)] rfl (by decide +kernel)) (goodIn_sub zB_X12_readsGroup_X120 zgw_X120))
set_option maxRecDepth 100000 in
theorem gX12_readsGroup_X12_goesWell : GoodIn wsX12_readsGroup (wsV RX12 231 RX12 yX12_goesWell wsX12_goesWell) := goodIn_app (goodIn_r _ [20, 21, 22, 8] rfl (by decide +kernel)) ggX12_readsGroup_X12_goesWell
set_option maxRecDepth 100000 in
theorem ggX12_readsGroup_X12_faults : GoodIn wsX12_readsGroup wsX12_faults := goodIn_hd (goodIn_c zc_wsX12_readsGroup_in [(1, 20)] rfl (by decide +kernel)) (goodIn_app (goodIn_c zc_wsX12_readsGroup_in [(0, 23), (1, 21)] rfl (by decide +kernel)) (goodIn_sub zB_X12_readsGroup_X120 zgw_X120))
set_option maxRecDepth 100000 in
theorem gX12_readsGroup_X12_faults : GoodIn wsX12_readsGroup (wsV RX12 239 RX12 yX12_faults wsX12_faults) := goodIn_app (goodIn_r _ [42, 43, 44, 8] rfl (by decide +kernel)) ggX12_readsGroup_X12_faults
set_option maxRecDepth 100000 in
theorem ggX12_readsGroup_X12_n : GoodIn wsX12_readsGroup wsX12_n := goodIn_hd (goodIn_c zc_wsX12_readsGroup_in [(2, 11)] rfl (by decide +kernel)) (goodIn_app (goodIn_c zc_wsX12_readsGroup_in [(0, 3)] rfl (by decide +kernel)) (goodIn_sub zB_X12_readsGroup_X120 zgw_X120))
set_option maxRecDepth 100000 in
theorem gX12_readsGroup_X12_n : GoodIn wsX12_readsGroup (wsV RX12 270 RX12 yX12_n wsX12_n) := goodIn_app (goodIn_r _ [57, 58, 59, 8] rfl (by decide +kernel)) ggX12_readsGroup_X12_n
set_option maxRecDepth 100000 in
theorem ggX12_readsGroup_X12_lesser : GoodIn wsX12_readsGroup wsX12_lesser := goodIn_r _ [63] rfl (by decide +kernel)
set_option maxRecDepth 100000 in
theorem gX12_readsGroup_X12_lesser : GoodIn wsX12_readsGroup (va_wsS RX12 322 yX12_lesser wsX12_lesser) := goodIn_app (goodIn_r _ [61, 62, 8] rfl (by decide +kernel)) ggX12_readsGroup_X12_lesser
noncomputable def zc_wsX12_readsAnswer : List (List Cond) := [wsX12_readsAnswer_r1, wsX12_readsAnswer_r2, wsX12_readsAnswer_r3, wsX12_readsAnswer_r4, wsX120]
set_option maxRecDepth 20000 in
theorem zc_wsX12_readsAnswer_in : ∀ l ∈ zc_wsX12_readsAnswer, ∀ w ∈ l, w ∈ wsX12_readsAnswer := by
  intro l hl
  unfold zc_wsX12_readsAnswer at hl
  rcases List.mem_cons.mp hl with e | hl
  · rw [e]
    exact fun w h => List.mem_cons_of_mem _ (List.mem_append_left _ (List.mem_append_left _ h))
  rcases List.mem_cons.mp hl with e | hl
  · rw [e]
    exact fun w h => List.mem_cons_of_mem _ (List.mem_append_left _ (List.mem_append_right _ (List.mem_append_left _ h)))
  rcases List.mem_cons.mp hl with e | hl
  · rw [e]
    exact fun w h => List.mem_cons_of_mem _ (List.mem_append_left _ (List.mem_append_right _ (List.mem_append_right _ (List.mem_append_left _ h))))
  rcases List.mem_cons.mp hl with e | hl
  · rw [e]
    exact fun w h => List.mem_cons_of_mem _ (List.mem_append_left _ (List.mem_append_right _ (List.mem_append_right _ (List.mem_append_right _ h))))
  rcases List.mem_cons.mp hl with e | hl
  · rw [e]
    exact fun w h => List.mem_cons_of_mem _ (List.mem_append_right _ h)
  cases hl
theorem zB_X12_readsAnswer_X120 : ∀ w ∈ wsX120, w ∈ wsX12_readsAnswer := fun _ h => List.mem_cons_of_mem _ (List.mem_append_right _ h)
set_option maxRecDepth 100000 in
theorem ggX12_readsAnswer_X12_toldNumber : GoodIn wsX12_readsAnswer wsX12_toldNumber := goodIn_hd (goodIn_c zc_wsX12_readsAnswer_in [(0, 6)] rfl (by decide +kernel)) (goodIn_app (goodIn_app (goodIn_c zc_wsX12_readsAnswer_in [(0, 7), (0, 8), (0, 9), (0, 10), (0, 5), (0, 11), (0, 12), (0, 13), (0, 14), (0, 15), (0, 16), (0, 17), (0, 18), (0, 19), (0, 20), (0, 21), (0, 22), (0, 23), (1, 0), (1, 1), (1, 2), (1, 3), (1, 4), (1, 5)] rfl (by decide +kernel)) (goodIn_app (goodIn_c zc_wsX12_readsAnswer_in [(1, 6), (1, 7), (1, 8), (1, 9), (1, 10), (1, 11), (1, 12), (1, 13), (1, 14), (1, 15), (1, 16), (1, 17), (1, 18), (1, 19), (1, 20), (1, 21), (1, 22), (1, 23), (2, 0), (2, 1), (2, 2), (2, 3), (2, 4), (2, 5)] rfl (by decide +kernel)) (goodIn_c zc_wsX12_readsAnswer_in [(2, 6), (2, 7), (2, 8), (2, 9), (2, 10), (2, 11), (2, 12)] rfl (by decide +kernel)))) (goodIn_sub zB_X12_readsAnswer_X120 zgw_X120))
set_option maxRecDepth 100000 in
theorem gX12_readsAnswer_X12_toldNumber : GoodIn wsX12_readsAnswer (wsV RX12 310 RX12 yX12_toldNumber wsX12_toldNumber) := goodIn_app (goodIn_r _ [3, 4, 5, 6] rfl (by decide +kernel)) ggX12_readsAnswer_X12_toldNumber
set_option maxRecDepth 100000 in
theorem ggX12_readsAnswer_X12_must : GoodIn wsX12_readsAnswer wsX12_must := goodIn_hd (goodIn_c zc_wsX12_readsAnswer_in [(2, 16)] rfl (by decide +kernel)) (goodIn_app (goodIn_app (goodIn_c zc_wsX12_readsAnswer_in [(0, 7), (0, 14), (0, 15), (0, 16), (0, 5), (0, 17), (0, 12), (0, 18), (0, 19), (0, 20), (0, 21), (0, 22), (0, 23), (1, 0), (1, 1), (1, 2), (1, 3), (1, 4), (1, 5), (1, 6), (1, 7), (0, 13), (1, 8), (1, 9)] rfl (by decide +kernel)) (goodIn_c zc_wsX12_readsAnswer_in [(1, 10), (1, 11), (1, 12), (1, 13), (1, 14), (1, 15), (1, 16), (1, 17), (1, 18), (1, 19), (1, 20), (1, 21), (1, 22), (1, 23), (2, 0), (2, 1)] rfl (by decide +kernel))) (goodIn_sub zB_X12_readsAnswer_X120 zgw_X120))
set_option maxRecDepth 100000 in
theorem gX12_readsAnswer_X12_must : GoodIn wsX12_readsAnswer (wsV RX12 285 RX12 yX12_must wsX12_must) := goodIn_app (goodIn_r _ [62, 63, 64, 6] rfl (by decide +kernel)) ggX12_readsAnswer_X12_must
set_option maxRecDepth 100000 in
theorem ggX12_readsAnswer_X12_number : GoodIn wsX12_readsAnswer wsX12_number := goodIn_hd (goodIn_c zc_wsX12_readsAnswer_in [(2, 20)] rfl (by decide +kernel)) (goodIn_app (goodIn_app (goodIn_c zc_wsX12_readsAnswer_in [(0, 7), (2, 21), (2, 22), (2, 23), (0, 5), (3, 0), (0, 12), (3, 1), (3, 2), (0, 18), (0, 19), (0, 20), (0, 21), (0, 22), (0, 23), (1, 0), (1, 1), (1, 2), (1, 3), (1, 4), (1, 5), (1, 6), (1, 7), (0, 13)] rfl (by decide +kernel)) (goodIn_c zc_wsX12_readsAnswer_in [(1, 12), (1, 13), (1, 14), (1, 15), (1, 8), (1, 9), (1, 10), (1, 11), (1, 16), (1, 17), (1, 18), (1, 19), (1, 20), (3, 3), (3, 4), (3, 5)] rfl (by decide +kernel))) (goodIn_sub zB_X12_readsAnswer_X120 zgw_X120))
set_option maxRecDepth 100000 in
theorem gX12_readsAnswer_X12_number : GoodIn wsX12_readsAnswer (wsV RX12 290 RX12 yX12_number wsX12_number) := goodIn_app (goodIn_r _ [66, 67, 68, 6] rfl (by decide +kernel)) ggX12_readsAnswer_X12_number
set_option maxRecDepth 100000 in
theorem ggX12_readsAnswer_X12_goesWell : GoodIn wsX12_readsAnswer wsX12_goesWell := goodIn_hd (goodIn_c zc_wsX12_readsAnswer_in [(0, 21)] rfl (by decide +kernel)) (goodIn_app (goodIn_c zc_wsX12_readsAnswer_in [(0, 22)] rfl (by decide +kernel)) (goodIn_sub zB_X12_readsAnswer_X120 zgw_X120))
set_option maxRecDepth 100000 in
theorem gX12_readsAnswer_X12_goesWell : GoodIn wsX12_readsAnswer (wsV RX12 231 RX12 yX12_goesWell wsX12_goesWell) := goodIn_app (goodIn_r _ [19, 20, 21, 6] rfl (by decide +kernel)) ggX12_readsAnswer_X12_goesWell
set_option maxRecDepth 100000 in
theorem ggX12_readsAnswer_X12_n : GoodIn wsX12_readsAnswer wsX12_n := goodIn_hd (goodIn_c zc_wsX12_readsAnswer_in [(2, 12)] rfl (by decide +kernel)) (goodIn_app (goodIn_c zc_wsX12_readsAnswer_in [(2, 7)] rfl (by decide +kernel)) (goodIn_sub zB_X12_readsAnswer_X120 zgw_X120))
set_option maxRecDepth 100000 in
theorem gX12_readsAnswer_X12_n : GoodIn wsX12_readsAnswer (wsV RX12 270 RX12 yX12_n wsX12_n) := goodIn_app (goodIn_r _ [58, 59, 60, 6] rfl (by decide +kernel)) ggX12_readsAnswer_X12_n
noncomputable def zc_wsX12_readsStatement : List (List Cond) := [wsX12_readsStatement_r1, wsX12_readsStatement_r2, wsX12_readsStatement_r3, wsX12_readsStatement_r4, wsX12_readsStatement_r5, wsX12_readsStatement_r6, wsX12_readsStatement_r7, wsX120]
set_option maxRecDepth 20000 in
theorem zc_wsX12_readsStatement_in : ∀ l ∈ zc_wsX12_readsStatement, ∀ w ∈ l, w ∈ wsX12_readsStatement := by
  intro l hl
  unfold zc_wsX12_readsStatement at hl
  rcases List.mem_cons.mp hl with e | hl
  · rw [e]
    exact fun w h => List.mem_cons_of_mem _ (List.mem_append_left _ (List.mem_append_left _ h))
  rcases List.mem_cons.mp hl with e | hl
  · rw [e]
    exact fun w h => List.mem_cons_of_mem _ (List.mem_append_left _ (List.mem_append_right _ (List.mem_append_left _ h)))
  rcases List.mem_cons.mp hl with e | hl
  · rw [e]
    exact fun w h => List.mem_cons_of_mem _ (List.mem_append_left _ (List.mem_append_right _ (List.mem_append_right _ (List.mem_append_left _ h))))
  rcases List.mem_cons.mp hl with e | hl
  · rw [e]
    exact fun w h => List.mem_cons_of_mem _ (List.mem_append_left _ (List.mem_append_right _ (List.mem_append_right _ (List.mem_append_right _ (List.mem_append_left _ h)))))
  rcases List.mem_cons.mp hl with e | hl
  · rw [e]
    exact fun w h => List.mem_cons_of_mem _ (List.mem_append_left _ (List.mem_append_right _ (List.mem_append_right _ (List.mem_append_right _ (List.mem_append_right _ (List.mem_append_left _ h))))))
  rcases List.mem_cons.mp hl with e | hl
  · rw [e]
    exact fun w h => List.mem_cons_of_mem _ (List.mem_append_left _ (List.mem_append_right _ (List.mem_append_right _ (List.mem_append_right _ (List.mem_append_right _ (List.mem_append_right _ (List.mem_append_left _ h)))))))
  rcases List.mem_cons.mp hl with e | hl
  · rw [e]
    exact fun w h => List.mem_cons_of_mem _ (List.mem_append_left _ (List.mem_append_right _ (List.mem_append_right _ (List.mem_append_right _ (List.mem_append_right _ (List.mem_append_right _ (List.mem_append_right _ h)))))))
  rcases List.mem_cons.mp hl with e | hl
  · rw [e]
    exact fun w h => List.mem_cons_of_mem _ (List.mem_append_right _ h)
  cases hl
theorem zB_X12_readsStatement_X120 : ∀ w ∈ wsX120, w ∈ wsX12_readsStatement := fun _ h => List.mem_cons_of_mem _ (List.mem_append_right _ h)
set_option maxRecDepth 100000 in
theorem ggX12_readsStatement_X12_word : GoodIn wsX12_readsStatement wsX12_word := goodIn_hd (goodIn_c zc_wsX12_readsStatement_in [(0, 10)] rfl (by decide +kernel)) (goodIn_app (goodIn_app (goodIn_c zc_wsX12_readsStatement_in [(0, 11), (0, 0), (0, 12), (0, 13), (0, 14), (0, 9), (0, 15), (0, 16), (0, 17), (0, 18), (0, 19), (0, 20), (0, 21), (0, 22), (0, 23), (1, 0), (1, 1), (1, 2), (1, 3), (1, 4), (1, 5), (1, 6), (1, 7), (1, 8)] rfl (by decide +kernel)) (goodIn_c zc_wsX12_readsStatement_in [(1, 9), (1, 10), (1, 11), (1, 12), (1, 13), (1, 14), (1, 15)] rfl (by decide +kernel))) (goodIn_sub zB_X12_readsStatement_X120 zgw_X120))
set_option maxRecDepth 100000 in
theorem gX12_readsStatement_X12_word : GoodIn wsX12_readsStatement (wsV RX12 249 RX12 yX12_word wsX12_word) := goodIn_app (goodIn_r _ [7, 8, 9, 10] rfl (by decide +kernel)) ggX12_readsStatement_X12_word
set_option maxRecDepth 100000 in
theorem ggX12_readsStatement_X12_goesWell : GoodIn wsX12_readsStatement wsX12_goesWell := goodIn_hd (goodIn_c zc_wsX12_readsStatement_in [(0, 15)] rfl (by decide +kernel)) (goodIn_app (goodIn_c zc_wsX12_readsStatement_in [(0, 16)] rfl (by decide +kernel)) (goodIn_sub zB_X12_readsStatement_X120 zgw_X120))
set_option maxRecDepth 100000 in
theorem gX12_readsStatement_X12_goesWell : GoodIn wsX12_readsStatement (wsV RX12 231 RX12 yX12_goesWell wsX12_goesWell) := goodIn_app (goodIn_r _ [13, 14, 15, 10] rfl (by decide +kernel)) ggX12_readsStatement_X12_goesWell
set_option maxRecDepth 100000 in
theorem ggX12_readsStatement_X12_own : GoodIn wsX12_readsStatement wsX12_own := goodIn_hd (goodIn_c zc_wsX12_readsStatement_in [(1, 19)] rfl (by decide +kernel)) (goodIn_app (goodIn_c zc_wsX12_readsStatement_in [(1, 20), (0, 0), (0, 11), (1, 2)] rfl (by decide +kernel)) (goodIn_sub zB_X12_readsStatement_X120 zgw_X120))
set_option maxRecDepth 100000 in
theorem gX12_readsStatement_X12_own : GoodIn wsX12_readsStatement (wsV RX12 252 RX12 yX12_own wsX12_own) := goodIn_app (goodIn_r _ [41, 42, 43, 10] rfl (by decide +kernel)) ggX12_readsStatement_X12_own
set_option maxRecDepth 100000 in
theorem ggX12_readsStatement_X12_isBeginning : GoodIn wsX12_readsStatement wsX12_isBeginning := goodIn_r _ [48] rfl (by decide +kernel)
set_option maxRecDepth 100000 in
theorem gX12_readsStatement_X12_isBeginning : GoodIn wsX12_readsStatement (va_wsS RX12 325 yX12_isBeginning wsX12_isBeginning) := goodIn_app (goodIn_r _ [46, 47, 10] rfl (by decide +kernel)) ggX12_readsStatement_X12_isBeginning
set_option maxRecDepth 100000 in
theorem ggX12_readsStatement_X12_faults : GoodIn wsX12_readsStatement wsX12_faults := goodIn_hd (goodIn_c zc_wsX12_readsStatement_in [(1, 14)] rfl (by decide +kernel)) (goodIn_app (goodIn_c zc_wsX12_readsStatement_in [(0, 16), (1, 15)] rfl (by decide +kernel)) (goodIn_sub zB_X12_readsStatement_X120 zgw_X120))
set_option maxRecDepth 100000 in
theorem gX12_readsStatement_X12_faults : GoodIn wsX12_readsStatement (wsV RX12 239 RX12 yX12_faults wsX12_faults) := goodIn_app (goodIn_r _ [36, 37, 38, 10] rfl (by decide +kernel)) ggX12_readsStatement_X12_faults
set_option maxRecDepth 100000 in
theorem ggX12_readsStatement_X12_readsFormat : GoodIn wsX12_readsStatement wsX12_readsFormat := goodIn_hd (goodIn_c zc_wsX12_readsStatement_in [(2, 3)] rfl (by decide +kernel)) (goodIn_app (goodIn_app (goodIn_c zc_wsX12_readsStatement_in [(2, 4), (2, 5), (0, 0), (0, 4), (0, 1), (0, 2), (2, 6), (2, 7), (2, 8), (2, 9), (2, 10), (2, 11), (2, 12), (0, 9), (2, 13), (2, 14), (2, 15), (2, 16), (2, 17), (0, 11), (1, 2), (0, 6), (0, 7), (0, 8)] rfl (by decide +kernel)) (goodIn_app (goodIn_c zc_wsX12_readsStatement_in [(0, 10), (0, 12), (0, 13), (0, 14), (0, 15), (0, 16), (0, 17), (0, 18), (0, 19), (0, 20), (0, 21), (0, 22), (0, 23), (1, 0), (1, 1), (1, 3), (1, 4), (1, 5), (1, 6), (1, 7), (1, 8), (1, 9), (1, 10), (1, 11)] rfl (by decide +kernel)) (goodIn_app (goodIn_c zc_wsX12_readsStatement_in [(1, 12), (1, 13), (1, 14), (1, 15), (1, 16), (1, 17), (1, 18), (1, 19), (1, 20), (2, 18), (2, 19), (2, 20), (2, 21), (2, 22), (2, 23), (3, 0), (3, 1), (3, 2), (3, 3), (3, 4), (3, 5), (0, 3), (3, 6), (3, 7)] rfl (by decide +kernel)) (goodIn_c zc_wsX12_readsStatement_in [(3, 8), (3, 9), (3, 10), (3, 11), (3, 12), (3, 13), (3, 14), (3, 15), (3, 16), (3, 17), (3, 18), (3, 19), (3, 20), (3, 21), (3, 22), (3, 23), (4, 0), (4, 1), (4, 2), (4, 3)] rfl (by decide +kernel))))) (goodIn_sub zB_X12_readsStatement_X120 zgw_X120))
set_option maxRecDepth 100000 in
theorem gX12_readsStatement_X12_readsFormat : GoodIn wsX12_readsStatement (wsV RX12 328 RX12 yX12_readsFormat wsX12_readsFormat) := goodIn_app (goodIn_r _ [49, 50, 51, 10] rfl (by decide +kernel)) ggX12_readsStatement_X12_readsFormat
set_option maxRecDepth 100000 in
theorem ggX12_readsStatement_X12_number : GoodIn wsX12_readsStatement wsX12_number := goodIn_hd (goodIn_c zc_wsX12_readsStatement_in [(3, 18)] rfl (by decide +kernel)) (goodIn_app (goodIn_app (goodIn_c zc_wsX12_readsStatement_in [(0, 0), (3, 19), (3, 20), (3, 21), (0, 9), (3, 22), (0, 11), (3, 23), (4, 0), (0, 12), (0, 13), (0, 14), (0, 15), (0, 16), (0, 17), (0, 18), (0, 19), (0, 20), (0, 21), (0, 22), (0, 23), (1, 0), (1, 1), (1, 2)] rfl (by decide +kernel)) (goodIn_c zc_wsX12_readsStatement_in [(1, 7), (1, 8), (1, 9), (1, 10), (1, 3), (1, 4), (1, 5), (1, 6), (1, 11), (1, 12), (1, 13), (1, 14), (1, 15), (4, 1), (4, 2), (4, 3)] rfl (by decide +kernel))) (goodIn_sub zB_X12_readsStatement_X120 zgw_X120))
set_option maxRecDepth 100000 in
theorem gX12_readsStatement_X12_number : GoodIn wsX12_readsStatement (wsV RX12 290 RX12 yX12_number wsX12_number) := goodIn_app (goodIn_r _ [88, 89, 90, 10] rfl (by decide +kernel)) ggX12_readsStatement_X12_number
set_option maxRecDepth 100000 in
theorem ggX12_readsStatement_X12_readsInput : GoodIn wsX12_readsStatement wsX12_readsInput := goodIn_hd (goodIn_c zc_wsX12_readsStatement_in [(4, 7)] rfl (by decide +kernel)) (goodIn_app (goodIn_app (goodIn_c zc_wsX12_readsStatement_in [(4, 8), (4, 9), (0, 0), (4, 10), (0, 3), (0, 2), (4, 11), (2, 10), (2, 11), (2, 12), (0, 9), (2, 13), (2, 14), (2, 15), (2, 16), (2, 17), (0, 11), (1, 2), (0, 6), (0, 7), (0, 8), (0, 10), (0, 12), (0, 13)] rfl (by decide +kernel)) (goodIn_app (goodIn_c zc_wsX12_readsStatement_in [(0, 14), (0, 15), (0, 16), (0, 17), (0, 18), (0, 19), (0, 20), (0, 21), (0, 22), (0, 23), (1, 0), (1, 1), (1, 3), (1, 4), (1, 5), (1, 6), (1, 7), (1, 8), (1, 9), (1, 10), (1, 11), (1, 12), (1, 13), (1, 14)] rfl (by decide +kernel)) (goodIn_app (goodIn_c zc_wsX12_readsStatement_in [(1, 15), (1, 16), (1, 17), (1, 18), (1, 19), (1, 20), (2, 18), (2, 19), (2, 20), (2, 21), (0, 1), (2, 6), (2, 22), (2, 23), (3, 0), (3, 1), (3, 2), (3, 3), (3, 4), (3, 5), (3, 6), (3, 7), (3, 8), (3, 9)] rfl (by decide +kernel)) (goodIn_c zc_wsX12_readsStatement_in [(3, 10), (4, 12), (4, 13), (4, 14), (4, 15), (3, 19), (3, 20), (3, 21), (3, 22), (3, 23), (4, 0), (4, 1), (4, 2), (4, 3), (4, 16), (4, 17), (4, 18), (4, 19), (4, 20), (4, 21), (4, 22), (4, 23), (5, 0), (5, 1)] rfl (by decide +kernel))))) (goodIn_sub zB_X12_readsStatement_X120 zgw_X120))
set_option maxRecDepth 100000 in
theorem gX12_readsStatement_X12_readsInput : GoodIn wsX12_readsStatement (wsV RX12 331 RX12 yX12_readsInput wsX12_readsInput) := goodIn_app (goodIn_r _ [101, 102, 103, 10] rfl (by decide +kernel)) ggX12_readsStatement_X12_readsInput
set_option maxRecDepth 100000 in
theorem ggX12_readsStatement_X12_readsLet : GoodIn wsX12_readsStatement wsX12_readsLet := goodIn_hd (goodIn_c zc_wsX12_readsStatement_in [(5, 5)] rfl (by decide +kernel)) (goodIn_app (goodIn_app (goodIn_c zc_wsX12_readsStatement_in [(5, 6), (0, 3), (0, 2), (4, 21), (4, 10), (4, 22), (4, 11), (2, 10), (2, 11), (2, 12), (0, 9), (2, 13), (0, 0), (2, 14), (2, 15), (2, 16), (2, 17), (0, 11), (1, 2), (0, 6), (0, 7), (0, 8), (0, 10), (0, 12)] rfl (by decide +kernel)) (goodIn_app (goodIn_c zc_wsX12_readsStatement_in [(0, 13), (0, 14), (0, 15), (0, 16), (0, 17), (0, 18), (0, 19), (0, 20), (0, 21), (0, 22), (0, 23), (1, 0), (1, 1), (1, 3), (1, 4), (1, 5), (1, 6), (1, 7), (1, 8), (1, 9), (1, 10), (1, 11), (1, 12), (1, 13)] rfl (by decide +kernel)) (goodIn_app (goodIn_c zc_wsX12_readsStatement_in [(1, 14), (1, 15), (1, 16), (1, 17), (1, 18), (1, 19), (1, 20), (2, 18), (2, 19), (2, 20), (2, 21), (0, 1), (2, 6), (2, 22), (2, 23), (3, 0), (3, 1), (3, 2), (3, 3), (3, 4), (3, 5), (3, 6), (3, 7), (3, 8)] rfl (by decide +kernel)) (goodIn_app (goodIn_c zc_wsX12_readsStatement_in [(3, 9), (3, 10), (5, 7), (5, 8), (5, 9), (5, 10), (5, 11), (5, 12), (5, 13), (5, 14), (5, 15), (2, 4), (4, 12), (4, 13), (4, 14), (4, 15), (3, 19), (3, 20), (3, 21), (3, 22), (3, 23), (4, 0), (4, 1), (4, 2)] rfl (by decide +kernel)) (goodIn_c zc_wsX12_readsStatement_in [(4, 3), (5, 16), (5, 17), (5, 18), (5, 19), (5, 20), (5, 21), (5, 22), (5, 23), (4, 16), (4, 17), (4, 18), (4, 19), (4, 20), (4, 23), (5, 0), (5, 1)] rfl (by decide +kernel)))))) (goodIn_sub zB_X12_readsStatement_X120 zgw_X120))
set_option maxRecDepth 100000 in
theorem gX12_readsStatement_X12_readsLet : GoodIn wsX12_readsStatement (wsV RX12 334 RX12 yX12_readsLet wsX12_readsLet) := goodIn_app (goodIn_r _ [123, 124, 125, 10] rfl (by decide +kernel)) ggX12_readsStatement_X12_readsLet
set_option maxRecDepth 100000 in
theorem ggX12_readsStatement_X12_readsFixed : GoodIn wsX12_readsStatement wsX12_readsFixed := goodIn_hd (goodIn_c zc_wsX12_readsStatement_in [(6, 3)] rfl (by decide +kernel)) (goodIn_app (goodIn_app (goodIn_c zc_wsX12_readsStatement_in [(0, 0), (4, 23), (5, 16), (5, 17), (5, 18), (0, 9), (5, 19), (2, 14), (2, 15), (2, 16), (2, 17), (0, 11), (1, 2), (0, 6), (0, 7), (0, 8), (0, 10), (0, 12), (0, 13), (0, 14), (0, 15), (0, 16), (0, 17), (0, 18)] rfl (by decide +kernel)) (goodIn_app (goodIn_c zc_wsX12_readsStatement_in [(0, 19), (0, 20), (0, 21), (0, 22), (0, 23), (1, 0), (1, 1), (1, 3), (1, 4), (1, 5), (1, 6), (1, 7), (1, 8), (1, 9), (1, 10), (1, 11), (1, 12), (1, 13), (1, 14), (1, 15), (1, 16), (1, 17), (1, 18), (1, 19)] rfl (by decide +kernel)) (goodIn_c zc_wsX12_readsStatement_in [(1, 20), (3, 2), (3, 3), (3, 4), (3, 5), (0, 3), (0, 2), (3, 6), (3, 7), (3, 8), (3, 9), (3, 10), (2, 18), (2, 19), (2, 20), (2, 21), (0, 1), (2, 6), (2, 22), (2, 23), (3, 0), (3, 1)] rfl (by decide +kernel)))) (goodIn_sub zB_X12_readsStatement_X120 zgw_X120))
set_option maxRecDepth 100000 in
theorem gX12_readsStatement_X12_readsFixed : GoodIn wsX12_readsStatement (wsV RX12 337 RX12 yX12_readsFixed wsX12_readsFixed) := goodIn_app (goodIn_r _ [145, 146, 147, 10] rfl (by decide +kernel)) ggX12_readsStatement_X12_readsFixed
set_option maxRecDepth 100000 in
theorem ggX12_readsStatement_X12_readsGroup : GoodIn wsX12_readsStatement wsX12_readsGroup := goodIn_hd (goodIn_c zc_wsX12_readsStatement_in [(6, 7)] rfl (by decide +kernel)) (goodIn_app (goodIn_app (goodIn_c zc_wsX12_readsStatement_in [(0, 0), (5, 1), (0, 3), (0, 2), (5, 16), (5, 17), (5, 18), (0, 9), (5, 19), (2, 14), (2, 15), (2, 16), (2, 17), (0, 11), (1, 2), (0, 6), (0, 7), (0, 8), (0, 10), (0, 12), (0, 13), (0, 14), (0, 15), (0, 16)] rfl (by decide +kernel)) (goodIn_app (goodIn_c zc_wsX12_readsStatement_in [(0, 17), (0, 18), (0, 19), (0, 20), (0, 21), (0, 22), (0, 23), (1, 0), (1, 1), (1, 3), (1, 4), (1, 5), (1, 6), (1, 7), (1, 8), (1, 9), (1, 10), (1, 11), (1, 12), (1, 13), (1, 14), (1, 15), (1, 16), (1, 17)] rfl (by decide +kernel)) (goodIn_c zc_wsX12_readsStatement_in [(1, 18), (1, 19), (1, 20), (3, 2), (3, 3), (3, 4), (3, 5), (3, 6), (3, 7), (3, 8), (3, 9), (3, 10), (6, 8), (6, 9), (6, 10)] rfl (by decide +kernel)))) (goodIn_sub zB_X12_readsStatement_X120 zgw_X120))
set_option maxRecDepth 100000 in
theorem gX12_readsStatement_X12_readsGroup : GoodIn wsX12_readsStatement (wsV RX12 340 RX12 yX12_readsGroup wsX12_readsGroup) := goodIn_app (goodIn_r _ [149, 150, 151, 10] rfl (by decide +kernel)) ggX12_readsStatement_X12_readsGroup
set_option maxRecDepth 100000 in
theorem ggX12_readsStatement_X12_readsAnswer : GoodIn wsX12_readsStatement wsX12_readsAnswer := goodIn_hd (goodIn_c zc_wsX12_readsStatement_in [(6, 14)] rfl (by decide +kernel)) (goodIn_app (goodIn_app (goodIn_c zc_wsX12_readsStatement_in [(2, 4), (5, 0), (5, 16), (5, 17), (5, 18), (0, 9), (5, 19), (0, 0), (2, 14), (2, 15), (2, 16), (2, 17), (0, 11), (1, 2), (0, 6), (0, 7), (0, 8), (0, 10), (0, 12), (0, 13), (0, 14), (0, 15), (0, 16), (0, 17)] rfl (by decide +kernel)) (goodIn_app (goodIn_c zc_wsX12_readsStatement_in [(0, 18), (0, 19), (0, 20), (0, 21), (0, 22), (0, 23), (1, 0), (1, 1), (1, 3), (1, 4), (1, 5), (1, 6), (1, 7), (1, 8), (1, 9), (1, 10), (1, 11), (1, 12), (1, 13), (1, 14), (1, 15), (1, 16), (1, 17), (1, 18)] rfl (by decide +kernel)) (goodIn_app (goodIn_c zc_wsX12_readsStatement_in [(1, 19), (1, 20), (3, 2), (3, 3), (3, 4), (3, 5), (0, 3), (0, 2), (3, 6), (3, 7), (3, 8), (3, 9), (3, 10), (3, 11), (3, 12), (3, 13), (3, 14), (3, 15), (3, 16), (3, 17), (3, 18), (3, 19), (3, 20), (3, 21)] rfl (by decide +kernel)) (goodIn_c zc_wsX12_readsStatement_in [(3, 22), (3, 23), (4, 0), (4, 1), (4, 2), (4, 3)] rfl (by decide +kernel))))) (goodIn_sub zB_X12_readsStatement_X120 zgw_X120))
set_option maxRecDepth 100000 in
theorem gX12_readsStatement_X12_readsAnswer : GoodIn wsX12_readsStatement (wsV RX12 343 RX12 yX12_readsAnswer wsX12_readsAnswer) := goodIn_app (goodIn_r _ [156, 157, 158, 10] rfl (by decide +kernel)) ggX12_readsStatement_X12_readsAnswer
set_option maxRecDepth 100000 in
theorem ggX12_readsStatement_X12_mark : GoodIn wsX12_readsStatement wsX12_mark := goodIn_hd (goodIn_c zc_wsX12_readsStatement_in [(5, 10)] rfl (by decide +kernel)) (goodIn_app (goodIn_c zc_wsX12_readsStatement_in [(0, 11), (0, 12), (0, 13), (0, 14), (0, 9), (0, 15), (0, 16), (0, 17), (0, 18), (0, 19), (0, 20), (0, 21), (0, 22), (0, 23), (1, 0), (1, 1), (1, 2), (1, 11), (1, 12), (1, 13), (1, 14), (1, 15)] rfl (by decide +kernel)) (goodIn_sub zB_X12_readsStatement_X120 zgw_X120))
set_option maxRecDepth 100000 in
theorem gX12_readsStatement_X12_mark : GoodIn wsX12_readsStatement (wsV RX12 313 RX12 yX12_mark wsX12_mark) := goodIn_app (goodIn_r _ [128, 129, 130, 10] rfl (by decide +kernel)) ggX12_readsStatement_X12_mark
noncomputable def zc_wsX12_task : List (List Cond) := [wsX12_task_r1, wsX12_task_r2, wsX12_task_r3, wsX12_task_r4, wsX12_task_r5, wsX12_task_r6, wsX12_task_r7, wsX12_task_r8, wsX120]
set_option maxRecDepth 20000 in
theorem zc_wsX12_task_in : ∀ l ∈ zc_wsX12_task, ∀ w ∈ l, w ∈ wsX12_task := by
  intro l hl
  unfold zc_wsX12_task at hl
  rcases List.mem_cons.mp hl with e | hl
  · rw [e]
    exact fun w h => List.mem_cons_of_mem _ (List.mem_append_left _ (List.mem_append_left _ h))
  rcases List.mem_cons.mp hl with e | hl
  · rw [e]
    exact fun w h => List.mem_cons_of_mem _ (List.mem_append_left _ (List.mem_append_right _ (List.mem_append_left _ h)))
  rcases List.mem_cons.mp hl with e | hl
  · rw [e]
    exact fun w h => List.mem_cons_of_mem _ (List.mem_append_left _ (List.mem_append_right _ (List.mem_append_right _ (List.mem_append_left _ h))))
  rcases List.mem_cons.mp hl with e | hl
  · rw [e]
    exact fun w h => List.mem_cons_of_mem _ (List.mem_append_left _ (List.mem_append_right _ (List.mem_append_right _ (List.mem_append_right _ (List.mem_append_left _ h)))))
  rcases List.mem_cons.mp hl with e | hl
  · rw [e]
    exact fun w h => List.mem_cons_of_mem _ (List.mem_append_left _ (List.mem_append_right _ (List.mem_append_right _ (List.mem_append_right _ (List.mem_append_right _ (List.mem_append_left _ h))))))
  rcases List.mem_cons.mp hl with e | hl
  · rw [e]
    exact fun w h => List.mem_cons_of_mem _ (List.mem_append_left _ (List.mem_append_right _ (List.mem_append_right _ (List.mem_append_right _ (List.mem_append_right _ (List.mem_append_right _ (List.mem_append_left _ h)))))))
  rcases List.mem_cons.mp hl with e | hl
  · rw [e]
    exact fun w h => List.mem_cons_of_mem _ (List.mem_append_left _ (List.mem_append_right _ (List.mem_append_right _ (List.mem_append_right _ (List.mem_append_right _ (List.mem_append_right _ (List.mem_append_right _ (List.mem_append_left _ h))))))))
  rcases List.mem_cons.mp hl with e | hl
  · rw [e]
    exact fun w h => List.mem_cons_of_mem _ (List.mem_append_left _ (List.mem_append_right _ (List.mem_append_right _ (List.mem_append_right _ (List.mem_append_right _ (List.mem_append_right _ (List.mem_append_right _ (List.mem_append_right _ h))))))))
  rcases List.mem_cons.mp hl with e | hl
  · rw [e]
    exact fun w h => List.mem_cons_of_mem _ (List.mem_append_right _ h)
  cases hl
theorem zB_X12_task_X120 : ∀ w ∈ wsX120, w ∈ wsX12_task := fun _ h => List.mem_cons_of_mem _ (List.mem_append_right _ h)
set_option maxRecDepth 100000 in
theorem ggX12_task_X12_goesWell : GoodIn wsX12_task wsX12_goesWell := goodIn_hd (goodIn_c zc_wsX12_task_in [(0, 17)] rfl (by decide +kernel)) (goodIn_app (goodIn_c zc_wsX12_task_in [(0, 3)] rfl (by decide +kernel)) (goodIn_sub zB_X12_task_X120 zgw_X120))
set_option maxRecDepth 100000 in
theorem gX12_task_X12_goesWell : GoodIn wsX12_task (wsV RX12 231 RX12 yX12_goesWell wsX12_goesWell) := goodIn_app (goodIn_r _ [14, 15, 16, 17] rfl (by decide +kernel)) ggX12_task_X12_goesWell
set_option maxRecDepth 100000 in
theorem ggX12_task_X12_here : GoodIn wsX12_task wsX12_here := goodIn_hd (goodIn_c zc_wsX12_task_in [(0, 21)] rfl (by decide +kernel)) (goodIn_app (goodIn_c zc_wsX12_task_in [(0, 2), (0, 22), (0, 23), (1, 0), (0, 16), (1, 1), (0, 1), (1, 2)] rfl (by decide +kernel)) (goodIn_sub zB_X12_task_X120 zgw_X120))
set_option maxRecDepth 100000 in
theorem gX12_task_X12_here : GoodIn wsX12_task (wsV RX12 235 RX12 yX12_here wsX12_here) := goodIn_app (goodIn_r _ [19, 20, 21, 17] rfl (by decide +kernel)) ggX12_task_X12_here
set_option maxRecDepth 100000 in
theorem ggX12_task_X12_readsStatement : GoodIn wsX12_task wsX12_readsStatement := goodIn_hd (goodIn_c zc_wsX12_task_in [(1, 6)] rfl (by decide +kernel)) (goodIn_app (goodIn_app (goodIn_c zc_wsX12_task_in [(1, 7), (0, 6), (0, 5), (0, 7), (1, 8), (0, 8), (1, 9), (1, 10), (1, 11), (0, 16), (1, 12), (0, 2), (0, 13), (0, 14), (0, 15), (0, 17), (0, 3), (0, 18), (0, 19), (0, 20), (0, 21), (0, 22), (0, 23), (1, 0)] rfl (by decide +kernel)) (goodIn_app (goodIn_c zc_wsX12_task_in [(1, 1), (0, 1), (1, 2), (1, 13), (1, 14), (1, 15), (1, 16), (1, 17), (1, 18), (1, 19), (1, 20), (1, 21), (1, 22), (1, 23), (2, 0), (0, 4), (2, 1), (2, 2), (2, 3), (2, 4), (2, 5), (2, 6), (2, 7), (2, 8)] rfl (by decide +kernel)) (goodIn_app (goodIn_c zc_wsX12_task_in [(2, 9), (2, 10), (2, 11), (2, 12), (2, 13), (2, 14), (2, 15), (2, 16), (2, 17), (2, 18), (2, 19), (2, 20), (2, 21), (2, 22), (2, 23), (3, 0), (3, 1), (3, 2), (3, 3), (3, 4), (3, 5), (3, 6), (3, 7), (3, 8)] rfl (by decide +kernel)) (goodIn_app (goodIn_c zc_wsX12_task_in [(3, 9), (3, 10), (3, 11), (3, 12), (3, 13), (3, 14), (3, 15), (3, 16), (3, 17), (3, 18), (3, 19), (3, 20), (3, 21), (3, 22), (3, 23), (4, 0), (4, 1), (4, 2), (4, 3), (4, 4), (4, 5), (4, 6), (4, 7), (4, 8)] rfl (by decide +kernel)) (goodIn_app (goodIn_c zc_wsX12_task_in [(4, 9), (4, 10), (4, 11), (4, 12), (4, 13), (4, 14), (4, 15), (4, 16), (4, 17), (4, 18), (4, 19), (4, 20), (4, 21), (4, 22), (4, 23), (5, 0), (5, 1), (5, 2), (5, 3), (5, 4), (5, 5), (5, 6), (5, 7), (5, 8)] rfl (by decide +kernel)) (goodIn_app (goodIn_c zc_wsX12_task_in [(5, 9), (5, 10), (5, 11), (5, 12), (5, 13), (5, 14), (5, 15), (5, 16), (5, 17), (5, 18), (5, 19), (5, 20), (5, 21), (5, 22), (5, 23), (6, 0), (6, 1), (6, 2), (6, 3), (6, 4), (6, 5), (6, 6), (6, 7), (6, 8)] rfl (by decide +kernel)) (goodIn_c zc_wsX12_task_in [(6, 9), (6, 10), (6, 11), (6, 12), (6, 13), (6, 14), (6, 15), (6, 16), (6, 17), (6, 18), (6, 19), (6, 20), (6, 21), (6, 22), (6, 23)] rfl (by decide +kernel)))))))) (goodIn_sub zB_X12_task_X120 zgw_X120))
set_option maxRecDepth 100000 in
theorem gX12_task_X12_readsStatement : GoodIn wsX12_task (wsV RX12 346 RX12 yX12_readsStatement wsX12_readsStatement) := goodIn_app (goodIn_r _ [28, 29, 30, 17] rfl (by decide +kernel)) ggX12_task_X12_readsStatement
set_option maxRecDepth 100000 in
theorem ggX12_task_X12_faults : GoodIn wsX12_task wsX12_faults := goodIn_hd (goodIn_c zc_wsX12_task_in [(2, 0)] rfl (by decide +kernel)) (goodIn_app (goodIn_c zc_wsX12_task_in [(0, 3), (0, 4)] rfl (by decide +kernel)) (goodIn_sub zB_X12_task_X120 zgw_X120))
set_option maxRecDepth 100000 in
theorem gX12_task_X12_faults : GoodIn wsX12_task (wsV RX12 239 RX12 yX12_faults wsX12_faults) := goodIn_app (goodIn_r _ [46, 47, 48, 17] rfl (by decide +kernel)) ggX12_task_X12_faults
set_option maxRecDepth 100000 in
theorem ggX12_task_X12_refuses : GoodIn wsX12_task wsX12_refuses := goodIn_hd (goodIn_c zc_wsX12_task_in [(7, 3)] rfl (by decide +kernel)) (goodIn_app (goodIn_c zc_wsX12_task_in [(7, 4)] rfl (by decide +kernel)) (goodIn_sub zB_X12_task_X120 zgw_X120))
set_option maxRecDepth 100000 in
theorem gX12_task_X12_refuses : GoodIn wsX12_task (wsV RX12 216 RX12 yX12_refuses wsX12_refuses) := goodIn_app (goodIn_r _ [169, 170, 171, 17] rfl (by decide +kernel)) ggX12_task_X12_refuses
set_option maxRecDepth 100000 in
theorem ggX12_task_X12_copiesTask : GoodIn wsX12_task wsX12_copiesTask := goodIn_hd (goodIn_c zc_wsX12_task_in [(7, 8)] rfl (by decide +kernel)) (goodIn_app (goodIn_c zc_wsX12_task_in [(0, 6), (0, 7), (0, 8), (2, 15), (2, 16), (2, 17), (2, 18), (3, 15), (5, 5), (5, 6), (5, 7), (4, 19), (4, 20), (5, 8), (5, 9), (5, 10)] rfl (by decide +kernel)) (goodIn_sub zB_X12_task_X120 zgw_X120))
set_option maxRecDepth 100000 in
theorem gX12_task_X12_copiesTask : GoodIn wsX12_task (wsV RX12 349 RX12 yX12_copiesTask wsX12_copiesTask) := goodIn_app (goodIn_r _ [174, 175, 176, 17] rfl (by decide +kernel)) ggX12_task_X12_copiesTask
set_option maxRecDepth 100000 in
theorem ggX12_task_X12_beginsChoice : GoodIn wsX12_task wsX12_beginsChoice := goodIn_hd (goodIn_c zc_wsX12_task_in [(7, 12)] rfl (by decide +kernel)) (goodIn_app (goodIn_c zc_wsX12_task_in [(7, 13), (0, 7), (7, 14), (5, 8), (5, 10)] rfl (by decide +kernel)) (goodIn_sub zB_X12_task_X120 zgw_X120))
set_option maxRecDepth 100000 in
theorem gX12_task_X12_beginsChoice : GoodIn wsX12_task (wsV RX12 352 RX12 yX12_beginsChoice wsX12_beginsChoice) := goodIn_app (goodIn_r _ [178, 179, 180, 17] rfl (by decide +kernel)) ggX12_task_X12_beginsChoice
set_option maxRecDepth 100000 in
theorem ggX12_isNumber_X12_isIn : GoodIn wsX12_isNumber wsX12_isIn := goodIn_r _ [5] rfl (by decide +kernel)
set_option maxRecDepth 100000 in
theorem gX12_isNumber_X12_isIn : GoodIn wsX12_isNumber (va_wsS RX12 263 yX12_isIn wsX12_isIn) := goodIn_app (goodIn_r _ [2, 3, 4] rfl (by decide +kernel)) ggX12_isNumber_X12_isIn
set_option maxRecDepth 100000 in
theorem ggX12_isFormat_X12_isIn : GoodIn wsX12_isFormat wsX12_isIn := goodIn_r _ [5] rfl (by decide +kernel)
set_option maxRecDepth 100000 in
theorem gX12_isFormat_X12_isIn : GoodIn wsX12_isFormat (va_wsS RX12 263 yX12_isIn wsX12_isIn) := goodIn_app (goodIn_r _ [2, 3, 4] rfl (by decide +kernel)) ggX12_isFormat_X12_isIn
theorem zB_X12_laysFree_X120 : ∀ w ∈ wsX120, w ∈ wsX12_laysFree := fun _ h => List.mem_cons_of_mem _ (List.mem_append_right _ h)
set_option maxRecDepth 100000 in
theorem ggX12_laysFree_X12_isFree : GoodIn wsX12_laysFree wsX12_isFree := goodIn_hd (goodIn_r _ [9] rfl (by decide +kernel)) (goodIn_app (goodIn_r _ [2, 3, 10] rfl (by decide +kernel)) (goodIn_sub zB_X12_laysFree_X120 zgw_X120))
set_option maxRecDepth 100000 in
theorem gX12_laysFree_X12_isFree : GoodIn wsX12_laysFree (wsV RX12 355 RX12 yX12_isFree wsX12_isFree) := goodIn_app (goodIn_r _ [5, 6, 7, 8] rfl (by decide +kernel)) ggX12_laysFree_X12_isFree
noncomputable def zc_wsX12_has : List (List Cond) := [wsX12_has_r1, wsX12_has_r2, wsX120]
set_option maxRecDepth 20000 in
theorem zc_wsX12_has_in : ∀ l ∈ zc_wsX12_has, ∀ w ∈ l, w ∈ wsX12_has := by
  intro l hl
  unfold zc_wsX12_has at hl
  rcases List.mem_cons.mp hl with e | hl
  · rw [e]
    exact fun w h => List.mem_cons_of_mem _ (List.mem_append_left _ (List.mem_append_left _ h))
  rcases List.mem_cons.mp hl with e | hl
  · rw [e]
    exact fun w h => List.mem_cons_of_mem _ (List.mem_append_left _ (List.mem_append_right _ h))
  rcases List.mem_cons.mp hl with e | hl
  · rw [e]
    exact fun w h => List.mem_cons_of_mem _ (List.mem_append_right _ h)
  cases hl
theorem zB_X12_has_X120 : ∀ w ∈ wsX120, w ∈ wsX12_has := fun _ h => List.mem_cons_of_mem _ (List.mem_append_right _ h)
set_option maxRecDepth 100000 in
theorem ggX12_has_X12_laysFree : GoodIn wsX12_has wsX12_laysFree := goodIn_hd (goodIn_c zc_wsX12_has_in [(0, 9)] rfl (by decide +kernel)) (goodIn_app (goodIn_c zc_wsX12_has_in [(0, 2), (0, 0), (0, 10), (0, 11), (0, 12), (0, 13), (0, 14), (0, 8), (0, 15), (0, 16)] rfl (by decide +kernel)) (goodIn_sub zB_X12_has_X120 zgw_X120))
set_option maxRecDepth 100000 in
theorem gX12_has_X12_laysFree : GoodIn wsX12_has (wsV RX12 358 RX12 yX12_laysFree wsX12_laysFree) := goodIn_app (goodIn_r _ [6, 7, 8, 9] rfl (by decide +kernel)) ggX12_has_X12_laysFree
set_option maxRecDepth 100000 in
theorem ggX12_has_X12_inputs : GoodIn wsX12_has wsX12_inputs := goodIn_hd (goodIn_c zc_wsX12_has_in [(0, 20)] rfl (by decide +kernel)) (goodIn_app (goodIn_c zc_wsX12_has_in [(0, 0), (0, 21)] rfl (by decide +kernel)) (goodIn_sub zB_X12_has_X120 zgw_X120))
set_option maxRecDepth 100000 in
theorem gX12_has_X12_inputs : GoodIn wsX12_has (wsV RX12 361 RX12 yX12_inputs wsX12_inputs) := goodIn_app (goodIn_r _ [18, 19, 20, 9] rfl (by decide +kernel)) ggX12_has_X12_inputs
set_option maxRecDepth 100000 in
theorem ggX12_has_X12_answers : GoodIn wsX12_has wsX12_answers := goodIn_hd (goodIn_c zc_wsX12_has_in [(1, 1)] rfl (by decide +kernel)) (goodIn_app (goodIn_c zc_wsX12_has_in [(0, 0), (1, 2)] rfl (by decide +kernel)) (goodIn_sub zB_X12_has_X120 zgw_X120))
set_option maxRecDepth 100000 in
theorem gX12_has_X12_answers : GoodIn wsX12_has (wsV RX12 364 RX12 yX12_answers wsX12_answers) := goodIn_app (goodIn_r _ [23, 24, 25, 9] rfl (by decide +kernel)) ggX12_has_X12_answers
set_option maxRecDepth 100000 in
theorem ggX12_has_X12_groups : GoodIn wsX12_has wsX12_groups := goodIn_hd (goodIn_c zc_wsX12_has_in [(1, 6)] rfl (by decide +kernel)) (goodIn_app (goodIn_c zc_wsX12_has_in [(0, 0), (0, 10)] rfl (by decide +kernel)) (goodIn_sub zB_X12_has_X120 zgw_X120))
set_option maxRecDepth 100000 in
theorem gX12_has_X12_groups : GoodIn wsX12_has (wsV RX12 367 RX12 yX12_groups wsX12_groups) := goodIn_app (goodIn_r _ [28, 29, 30, 9] rfl (by decide +kernel)) ggX12_has_X12_groups
theorem zB_X12_letter_X120 : ∀ w ∈ wsX120, w ∈ wsX12_letter := fun _ h => List.mem_cons_of_mem _ (List.mem_append_right _ h)
set_option maxRecDepth 100000 in
theorem ggX12_letter_X12_isFormat : GoodIn wsX12_letter wsX12_isFormat := goodIn_hd (goodIn_r _ [8] rfl (by decide +kernel)) (goodIn_app (goodIn_r _ [9, 10, 11, 7, 12] rfl (by decide +kernel)) (goodIn_sub zB_X12_letter_X120 zgw_X120))
set_option maxRecDepth 100000 in
theorem gX12_letter_X12_isFormat : GoodIn wsX12_letter (wsV RX12 370 RX12 yX12_isFormat wsX12_isFormat) := goodIn_app (goodIn_r _ [4, 5, 6, 7] rfl (by decide +kernel)) ggX12_letter_X12_isFormat
set_option maxRecDepth 100000 in
theorem ggX12_letter_X12_isNumber : GoodIn wsX12_letter wsX12_isNumber := goodIn_hd (goodIn_r _ [16] rfl (by decide +kernel)) (goodIn_app (goodIn_r _ [17, 10, 11, 7, 12] rfl (by decide +kernel)) (goodIn_sub zB_X12_letter_X120 zgw_X120))
set_option maxRecDepth 100000 in
theorem gX12_letter_X12_isNumber : GoodIn wsX12_letter (wsV RX12 373 RX12 yX12_isNumber wsX12_isNumber) := goodIn_app (goodIn_r _ [13, 14, 15, 7] rfl (by decide +kernel)) ggX12_letter_X12_isNumber
set_option maxRecDepth 100000 in
theorem ggX12_letter_X12_isIn : GoodIn wsX12_letter wsX12_isIn := goodIn_r _ [12] rfl (by decide +kernel)
set_option maxRecDepth 100000 in
theorem gX12_letter_X12_isIn : GoodIn wsX12_letter (va_wsS RX12 263 yX12_isIn wsX12_isIn) := goodIn_app (goodIn_r _ [10, 11, 7] rfl (by decide +kernel)) ggX12_letter_X12_isIn
theorem zB_X12_format_X120 : ∀ w ∈ wsX120, w ∈ wsX12_format := fun _ h => List.mem_cons_of_mem _ (List.mem_append_right _ h)
set_option maxRecDepth 100000 in
theorem ggX12_format_X12_isFormat : GoodIn wsX12_format wsX12_isFormat := goodIn_hd (goodIn_r _ [8] rfl (by decide +kernel)) (goodIn_app (goodIn_r _ [9, 10, 11, 7, 12] rfl (by decide +kernel)) (goodIn_sub zB_X12_format_X120 zgw_X120))
set_option maxRecDepth 100000 in
theorem gX12_format_X12_isFormat : GoodIn wsX12_format (wsV RX12 370 RX12 yX12_isFormat wsX12_isFormat) := goodIn_app (goodIn_r _ [4, 5, 6, 7] rfl (by decide +kernel)) ggX12_format_X12_isFormat
theorem zB_X12_number__X120 : ∀ w ∈ wsX120, w ∈ wsX12_number_ := fun _ h => List.mem_cons_of_mem _ (List.mem_append_right _ h)
set_option maxRecDepth 100000 in
theorem ggX12_number__X12_isNumber : GoodIn wsX12_number_ wsX12_isNumber := goodIn_hd (goodIn_r _ [10] rfl (by decide +kernel)) (goodIn_app (goodIn_r _ [11, 12, 13, 9, 14] rfl (by decide +kernel)) (goodIn_sub zB_X12_number__X120 zgw_X120))
set_option maxRecDepth 100000 in
theorem gX12_number__X12_isNumber : GoodIn wsX12_number_ (wsV RX12 373 RX12 yX12_isNumber wsX12_isNumber) := goodIn_app (goodIn_r _ [6, 7, 8, 9] rfl (by decide +kernel)) ggX12_number__X12_isNumber
set_option maxRecDepth 100000 in
theorem ggX12_number__X12_groupPlace : GoodIn wsX12_number_ wsX12_groupPlace := goodIn_hd (goodIn_r _ [18] rfl (by decide +kernel)) (goodIn_app (goodIn_r _ [19] rfl (by decide +kernel)) (goodIn_sub zB_X12_number__X120 zgw_X120))
set_option maxRecDepth 100000 in
theorem gX12_number__X12_groupPlace : GoodIn wsX12_number_ (wsV RX12 378 RX12 yX12_groupPlace wsX12_groupPlace) := goodIn_app (goodIn_r _ [15, 16, 17, 9] rfl (by decide +kernel)) ggX12_number__X12_groupPlace
theorem zB_X12_told_X120 : ∀ w ∈ wsX120, w ∈ wsX12_told := fun _ h => List.mem_cons_of_mem _ (List.mem_append_right _ h)
set_option maxRecDepth 100000 in
theorem ggX12_told_X12_isNumber : GoodIn wsX12_told wsX12_isNumber := goodIn_hd (goodIn_r _ [11] rfl (by decide +kernel)) (goodIn_app (goodIn_r _ [12, 13, 14, 10, 15] rfl (by decide +kernel)) (goodIn_sub zB_X12_told_X120 zgw_X120))
set_option maxRecDepth 100000 in
theorem gX12_told_X12_isNumber : GoodIn wsX12_told (wsV RX12 373 RX12 yX12_isNumber wsX12_isNumber) := goodIn_app (goodIn_r _ [7, 8, 9, 10] rfl (by decide +kernel)) ggX12_told_X12_isNumber
set_option maxRecDepth 100000 in
theorem ggX12_told_X12_isIn : GoodIn wsX12_told wsX12_isIn := goodIn_r _ [15] rfl (by decide +kernel)
set_option maxRecDepth 100000 in
theorem gX12_told_X12_isIn : GoodIn wsX12_told (va_wsS RX12 263 yX12_isIn wsX12_isIn) := goodIn_app (goodIn_r _ [13, 14, 10] rfl (by decide +kernel)) ggX12_told_X12_isIn
set_option maxRecDepth 100000 in
theorem ggX12_rounded_X12_floor : GoodIn wsX12_rounded wsX12_floor := goodIn_r _ [5] rfl (by decide +kernel)
set_option maxRecDepth 100000 in
theorem gX12_rounded_X12_floor : GoodIn wsX12_rounded (va_wsS RX12 385 yX12_floor wsX12_floor) := goodIn_app (goodIn_r _ [2, 3, 4] rfl (by decide +kernel)) ggX12_rounded_X12_floor
set_option maxRecDepth 100000 in
theorem ggX12_roundedProduct_X12_floor : GoodIn wsX12_roundedProduct wsX12_floor := goodIn_r _ [7] rfl (by decide +kernel)
set_option maxRecDepth 100000 in
theorem gX12_roundedProduct_X12_floor : GoodIn wsX12_roundedProduct (va_wsS RX12 385 yX12_floor wsX12_floor) := goodIn_app (goodIn_r _ [4, 5, 6] rfl (by decide +kernel)) ggX12_roundedProduct_X12_floor
set_option maxRecDepth 100000 in
theorem ggX12_two_X12_roundedProduct : GoodIn wsX12_two wsX12_roundedProduct := goodIn_r _ [4, 5, 6, 7, 8, 9, 3, 10] rfl (by decide +kernel)
set_option maxRecDepth 100000 in
theorem gX12_two_X12_roundedProduct : GoodIn wsX12_two (va_wsS RX12 392 yX12_roundedProduct wsX12_roundedProduct) := goodIn_app (goodIn_r _ [1, 2, 3] rfl (by decide +kernel)) ggX12_two_X12_roundedProduct
set_option maxRecDepth 100000 in
theorem ggX12_two_X12_lesser : GoodIn wsX12_two wsX12_lesser := goodIn_r _ [13] rfl (by decide +kernel)
set_option maxRecDepth 100000 in
theorem gX12_two_X12_lesser : GoodIn wsX12_two (va_wsS RX12 322 yX12_lesser wsX12_lesser) := goodIn_app (goodIn_r _ [11, 12, 3] rfl (by decide +kernel)) ggX12_two_X12_lesser
set_option maxRecDepth 100000 in
theorem ggX12_two_X12_greater : GoodIn wsX12_two wsX12_greater := goodIn_r _ [16] rfl (by decide +kernel)
set_option maxRecDepth 100000 in
theorem gX12_two_X12_greater : GoodIn wsX12_two (va_wsS RX12 396 yX12_greater wsX12_greater) := goodIn_app (goodIn_r _ [14, 15, 3] rfl (by decide +kernel)) ggX12_two_X12_greater
noncomputable def zc_wsX12_laysRange : List (List Cond) := [wsX12_laysRange_r1, wsX12_laysRange_r2, wsX120]
set_option maxRecDepth 20000 in
theorem zc_wsX12_laysRange_in : ∀ l ∈ zc_wsX12_laysRange, ∀ w ∈ l, w ∈ wsX12_laysRange := by
  intro l hl
  unfold zc_wsX12_laysRange at hl
  rcases List.mem_cons.mp hl with e | hl
  · rw [e]
    exact fun w h => List.mem_cons_of_mem _ (List.mem_append_left _ (List.mem_append_left _ h))
  rcases List.mem_cons.mp hl with e | hl
  · rw [e]
    exact fun w h => List.mem_cons_of_mem _ (List.mem_append_left _ (List.mem_append_right _ h))
  rcases List.mem_cons.mp hl with e | hl
  · rw [e]
    exact fun w h => List.mem_cons_of_mem _ (List.mem_append_right _ h)
  cases hl
theorem zB_X12_laysRange_X120 : ∀ w ∈ wsX120, w ∈ wsX12_laysRange := fun _ h => List.mem_cons_of_mem _ (List.mem_append_right _ h)
set_option maxRecDepth 100000 in
theorem ggX12_laysRange_X12_lowOf : GoodIn wsX12_laysRange wsX12_lowOf := goodIn_hd (goodIn_c zc_wsX12_laysRange_in [(0, 11)] rfl (by decide +kernel)) (goodIn_app (goodIn_c zc_wsX12_laysRange_in [(0, 12), (0, 13), (0, 6), (0, 4), (0, 3)] rfl (by decide +kernel)) (goodIn_sub zB_X12_laysRange_X120 zgw_X120))
set_option maxRecDepth 100000 in
theorem gX12_laysRange_X12_lowOf : GoodIn wsX12_laysRange (wsV RX12 399 RX12 yX12_lowOf wsX12_lowOf) := goodIn_app (goodIn_r _ [8, 9, 10, 11] rfl (by decide +kernel)) ggX12_laysRange_X12_lowOf
set_option maxRecDepth 100000 in
theorem ggX12_laysRange_X12_highOf : GoodIn wsX12_laysRange wsX12_highOf := goodIn_hd (goodIn_c zc_wsX12_laysRange_in [(0, 17)] rfl (by decide +kernel)) (goodIn_app (goodIn_c zc_wsX12_laysRange_in [(0, 12), (0, 13), (0, 6), (0, 4), (0, 5)] rfl (by decide +kernel)) (goodIn_sub zB_X12_laysRange_X120 zgw_X120))
set_option maxRecDepth 100000 in
theorem gX12_laysRange_X12_highOf : GoodIn wsX12_laysRange (wsV RX12 403 RX12 yX12_highOf wsX12_highOf) := goodIn_app (goodIn_r _ [15, 16, 17, 11] rfl (by decide +kernel)) ggX12_laysRange_X12_highOf
set_option maxRecDepth 100000 in
theorem ggX12_laysRange_X12_two : GoodIn wsX12_laysRange wsX12_two := goodIn_r _ [21, 22, 23, 11, 24, 25, 26, 27, 28, 29, 30, 31, 32, 33, 34, 35, 36] rfl (by decide +kernel)
set_option maxRecDepth 100000 in
theorem gX12_laysRange_X12_two : GoodIn wsX12_laysRange (va_wsS RX12 406 yX12_two wsX12_two) := goodIn_app (goodIn_r _ [19, 20, 11] rfl (by decide +kernel)) ggX12_laysRange_X12_two
set_option maxRecDepth 100000 in
theorem ggX12_laysRange_X12_lesser : GoodIn wsX12_laysRange wsX12_lesser := goodIn_r _ [33] rfl (by decide +kernel)
set_option maxRecDepth 100000 in
theorem gX12_laysRange_X12_lesser : GoodIn wsX12_laysRange (va_wsS RX12 322 yX12_lesser wsX12_lesser) := goodIn_app (goodIn_r _ [31, 32, 11] rfl (by decide +kernel)) ggX12_laysRange_X12_lesser
set_option maxRecDepth 100000 in
theorem ggX12_laysRange_X12_greater : GoodIn wsX12_laysRange wsX12_greater := goodIn_r _ [36] rfl (by decide +kernel)
set_option maxRecDepth 100000 in
theorem gX12_laysRange_X12_greater : GoodIn wsX12_laysRange (va_wsS RX12 396 yX12_greater wsX12_greater) := goodIn_app (goodIn_r _ [34, 35, 11] rfl (by decide +kernel)) ggX12_laysRange_X12_greater
set_option maxRecDepth 100000 in
theorem ggX12_mostOf_X12_amount : GoodIn wsX12_mostOf wsX12_amount := goodIn_r _ [6] rfl (by decide +kernel)
set_option maxRecDepth 100000 in
theorem gX12_mostOf_X12_amount : GoodIn wsX12_mostOf (va_wsS RX12 410 yX12_amount wsX12_amount) := goodIn_app (goodIn_r _ [3, 4, 5] rfl (by decide +kernel)) ggX12_mostOf_X12_amount
set_option maxRecDepth 100000 in
theorem ggX12_mostOf_X12_greater : GoodIn wsX12_mostOf wsX12_greater := goodIn_r _ [9] rfl (by decide +kernel)
set_option maxRecDepth 100000 in
theorem gX12_mostOf_X12_greater : GoodIn wsX12_mostOf (va_wsS RX12 396 yX12_greater wsX12_greater) := goodIn_app (goodIn_r _ [7, 8, 5] rfl (by decide +kernel)) ggX12_mostOf_X12_greater
noncomputable def zc_wsX12_range : List (List Cond) := [wsX12_range_r1, wsX12_range_r2, wsX12_range_r3, wsX120]
set_option maxRecDepth 20000 in
theorem zc_wsX12_range_in : ∀ l ∈ zc_wsX12_range, ∀ w ∈ l, w ∈ wsX12_range := by
  intro l hl
  unfold zc_wsX12_range at hl
  rcases List.mem_cons.mp hl with e | hl
  · rw [e]
    exact fun w h => List.mem_cons_of_mem _ (List.mem_append_left _ (List.mem_append_left _ h))
  rcases List.mem_cons.mp hl with e | hl
  · rw [e]
    exact fun w h => List.mem_cons_of_mem _ (List.mem_append_left _ (List.mem_append_right _ (List.mem_append_left _ h)))
  rcases List.mem_cons.mp hl with e | hl
  · rw [e]
    exact fun w h => List.mem_cons_of_mem _ (List.mem_append_left _ (List.mem_append_right _ (List.mem_append_right _ h)))
  rcases List.mem_cons.mp hl with e | hl
  · rw [e]
    exact fun w h => List.mem_cons_of_mem _ (List.mem_append_right _ h)
  cases hl
theorem zB_X12_range_X120 : ∀ w ∈ wsX120, w ∈ wsX12_range := fun _ h => List.mem_cons_of_mem _ (List.mem_append_right _ h)
set_option maxRecDepth 100000 in
theorem ggX12_range_X12_isNumber : GoodIn wsX12_range wsX12_isNumber := goodIn_hd (goodIn_c zc_wsX12_range_in [(0, 12)] rfl (by decide +kernel)) (goodIn_app (goodIn_c zc_wsX12_range_in [(0, 13), (0, 14), (0, 15), (0, 11), (0, 16)] rfl (by decide +kernel)) (goodIn_sub zB_X12_range_X120 zgw_X120))
set_option maxRecDepth 100000 in
theorem gX12_range_X12_isNumber : GoodIn wsX12_range (wsV RX12 373 RX12 yX12_isNumber wsX12_isNumber) := goodIn_app (goodIn_r _ [9, 10, 11, 12] rfl (by decide +kernel)) ggX12_range_X12_isNumber
set_option maxRecDepth 100000 in
theorem ggX12_range_X12_isGreatPart : GoodIn wsX12_range wsX12_isGreatPart := goodIn_hd (goodIn_c zc_wsX12_range_in [(0, 20)] rfl (by decide +kernel)) (goodIn_app (goodIn_c zc_wsX12_range_in [(0, 2)] rfl (by decide +kernel)) (goodIn_sub zB_X12_range_X120 zgw_X120))
set_option maxRecDepth 100000 in
theorem gX12_range_X12_isGreatPart : GoodIn wsX12_range (wsV RX12 414 RX12 yX12_isGreatPart wsX12_isGreatPart) := goodIn_app (goodIn_r _ [18, 19, 20, 12] rfl (by decide +kernel)) ggX12_range_X12_isGreatPart
set_option maxRecDepth 100000 in
theorem ggX12_range_X12_laysRange : GoodIn wsX12_range wsX12_laysRange := goodIn_hd (goodIn_c zc_wsX12_range_in [(1, 0)] rfl (by decide +kernel)) (goodIn_app (goodIn_app (goodIn_c zc_wsX12_range_in [(1, 1), (0, 1), (1, 2), (0, 7), (1, 3), (0, 6), (1, 4), (1, 5), (1, 6), (1, 7), (0, 11), (1, 8), (0, 4), (0, 3), (1, 9), (1, 10), (1, 11), (1, 12), (1, 13), (1, 14), (1, 15), (1, 16), (1, 17), (1, 18)] rfl (by decide +kernel)) (goodIn_c zc_wsX12_range_in [(1, 19), (1, 20), (1, 21), (1, 22), (1, 23), (2, 0), (2, 1), (2, 2), (2, 3), (2, 4), (2, 5), (2, 6)] rfl (by decide +kernel))) (goodIn_sub zB_X12_range_X120 zgw_X120))
set_option maxRecDepth 100000 in
theorem gX12_range_X12_laysRange : GoodIn wsX12_range (wsV RX12 417 RX12 yX12_laysRange wsX12_laysRange) := goodIn_app (goodIn_r _ [22, 23, 24, 12] rfl (by decide +kernel)) ggX12_range_X12_laysRange
set_option maxRecDepth 100000 in
theorem ggX12_range_X12_mostOf : GoodIn wsX12_range wsX12_mostOf := goodIn_hd (goodIn_c zc_wsX12_range_in [(2, 10)] rfl (by decide +kernel)) (goodIn_app (goodIn_c zc_wsX12_range_in [(0, 7), (0, 6), (2, 11), (2, 12), (0, 11), (2, 13), (2, 4), (2, 5), (2, 6)] rfl (by decide +kernel)) (goodIn_sub zB_X12_range_X120 zgw_X120))
set_option maxRecDepth 100000 in
theorem gX12_range_X12_mostOf : GoodIn wsX12_range (wsV RX12 420 RX12 yX12_mostOf wsX12_mostOf) := goodIn_app (goodIn_r _ [56, 57, 58, 12] rfl (by decide +kernel)) ggX12_range_X12_mostOf
theorem zB_X12_uses_X120 : ∀ w ∈ wsX120, w ∈ wsX12_uses := fun _ h => List.mem_cons_of_mem _ (List.mem_append_right _ h)
set_option maxRecDepth 100000 in
theorem ggX12_uses_X12_isNumber : GoodIn wsX12_uses wsX12_isNumber := goodIn_hd (goodIn_r _ [8] rfl (by decide +kernel)) (goodIn_app (goodIn_r _ [1, 9, 10, 7, 11] rfl (by decide +kernel)) (goodIn_sub zB_X12_uses_X120 zgw_X120))
set_option maxRecDepth 100000 in
theorem gX12_uses_X12_isNumber : GoodIn wsX12_uses (wsV RX12 373 RX12 yX12_isNumber wsX12_isNumber) := goodIn_app (goodIn_r _ [4, 5, 6, 7] rfl (by decide +kernel)) ggX12_uses_X12_isNumber
theorem zB_X12_depth_X120 : ∀ w ∈ wsX120, w ∈ wsX12_depth := fun _ h => List.mem_cons_of_mem _ (List.mem_append_right _ h)
set_option maxRecDepth 100000 in
theorem ggX12_depth_X12_isNumber : GoodIn wsX12_depth wsX12_isNumber := goodIn_hd (goodIn_r _ [9] rfl (by decide +kernel)) (goodIn_app (goodIn_r _ [10, 11, 12, 8, 13] rfl (by decide +kernel)) (goodIn_sub zB_X12_depth_X120 zgw_X120))
set_option maxRecDepth 100000 in
theorem gX12_depth_X12_isNumber : GoodIn wsX12_depth (wsV RX12 373 RX12 yX12_isNumber wsX12_isNumber) := goodIn_app (goodIn_r _ [5, 6, 7, 8] rfl (by decide +kernel)) ggX12_depth_X12_isNumber
set_option maxRecDepth 100000 in
theorem ggX12_depth_X12_deepOf : GoodIn wsX12_depth wsX12_deepOf := goodIn_hd (goodIn_r _ [17] rfl (by decide +kernel)) (goodIn_app (goodIn_r _ [3] rfl (by decide +kernel)) (goodIn_sub zB_X12_depth_X120 zgw_X120))
set_option maxRecDepth 100000 in
theorem gX12_depth_X12_deepOf : GoodIn wsX12_depth (wsV RX12 424 RX12 yX12_deepOf wsX12_deepOf) := goodIn_app (goodIn_r _ [14, 15, 16, 8] rfl (by decide +kernel)) ggX12_depth_X12_deepOf
noncomputable def zc_wsX12_laysError : List (List Cond) := [wsX12_laysError_r1, wsX12_laysError_r2, wsX120]
set_option maxRecDepth 20000 in
theorem zc_wsX12_laysError_in : ∀ l ∈ zc_wsX12_laysError, ∀ w ∈ l, w ∈ wsX12_laysError := by
  intro l hl
  unfold zc_wsX12_laysError at hl
  rcases List.mem_cons.mp hl with e | hl
  · rw [e]
    exact fun w h => List.mem_cons_of_mem _ (List.mem_append_left _ (List.mem_append_left _ h))
  rcases List.mem_cons.mp hl with e | hl
  · rw [e]
    exact fun w h => List.mem_cons_of_mem _ (List.mem_append_left _ (List.mem_append_right _ h))
  rcases List.mem_cons.mp hl with e | hl
  · rw [e]
    exact fun w h => List.mem_cons_of_mem _ (List.mem_append_right _ h)
  cases hl
theorem zB_X12_laysError_X120 : ∀ w ∈ wsX120, w ∈ wsX12_laysError := fun _ h => List.mem_cons_of_mem _ (List.mem_append_right _ h)
set_option maxRecDepth 100000 in
theorem ggX12_laysError_X12_castError : GoodIn wsX12_laysError wsX12_castError := goodIn_hd (goodIn_c zc_wsX12_laysError_in [(0, 10)] rfl (by decide +kernel)) (goodIn_app (goodIn_c zc_wsX12_laysError_in [(0, 0), (0, 1), (0, 11), (0, 12), (0, 13), (0, 14), (0, 2), (0, 4)] rfl (by decide +kernel)) (goodIn_sub zB_X12_laysError_X120 zgw_X120))
set_option maxRecDepth 100000 in
theorem gX12_laysError_X12_castError : GoodIn wsX12_laysError (wsV RX12 427 RX12 yX12_castError wsX12_castError) := goodIn_app (goodIn_r _ [7, 8, 9, 10] rfl (by decide +kernel)) ggX12_laysError_X12_castError
set_option maxRecDepth 100000 in
theorem ggX12_laysError_X12_lowOf : GoodIn wsX12_laysError wsX12_lowOf := goodIn_hd (goodIn_c zc_wsX12_laysError_in [(0, 18)] rfl (by decide +kernel)) (goodIn_app (goodIn_c zc_wsX12_laysError_in [(0, 11), (0, 12), (0, 13), (0, 14), (0, 19)] rfl (by decide +kernel)) (goodIn_sub zB_X12_laysError_X120 zgw_X120))
set_option maxRecDepth 100000 in
theorem gX12_laysError_X12_lowOf : GoodIn wsX12_laysError (wsV RX12 399 RX12 yX12_lowOf wsX12_lowOf) := goodIn_app (goodIn_r _ [16, 17, 18, 10] rfl (by decide +kernel)) ggX12_laysError_X12_lowOf
set_option maxRecDepth 100000 in
theorem ggX12_laysError_X12_amount : GoodIn wsX12_laysError wsX12_amount := goodIn_r _ [23] rfl (by decide +kernel)
set_option maxRecDepth 100000 in
theorem gX12_laysError_X12_amount : GoodIn wsX12_laysError (va_wsS RX12 410 yX12_amount wsX12_amount) := goodIn_app (goodIn_r _ [21, 22, 10] rfl (by decide +kernel)) ggX12_laysError_X12_amount
set_option maxRecDepth 100000 in
theorem ggX12_laysError_X12_highOf : GoodIn wsX12_laysError wsX12_highOf := goodIn_hd (goodIn_c zc_wsX12_laysError_in [(1, 2)] rfl (by decide +kernel)) (goodIn_app (goodIn_c zc_wsX12_laysError_in [(0, 11), (0, 12), (0, 13), (0, 14), (1, 3)] rfl (by decide +kernel)) (goodIn_sub zB_X12_laysError_X120 zgw_X120))
set_option maxRecDepth 100000 in
theorem gX12_laysError_X12_highOf : GoodIn wsX12_laysError (wsV RX12 403 RX12 yX12_highOf wsX12_highOf) := goodIn_app (goodIn_r _ [24, 25, 26, 10] rfl (by decide +kernel)) ggX12_laysError_X12_highOf
set_option maxRecDepth 100000 in
theorem ggX12_laysError_X12_greater : GoodIn wsX12_laysError wsX12_greater := goodIn_r _ [31] rfl (by decide +kernel)
set_option maxRecDepth 100000 in
theorem gX12_laysError_X12_greater : GoodIn wsX12_laysError (va_wsS RX12 396 yX12_greater wsX12_greater) := goodIn_app (goodIn_r _ [29, 30, 10] rfl (by decide +kernel)) ggX12_laysError_X12_greater
set_option maxRecDepth 100000 in
theorem ggX12_laysError_X12_floor : GoodIn wsX12_laysError wsX12_floor := goodIn_r _ [34] rfl (by decide +kernel)
set_option maxRecDepth 100000 in
theorem gX12_laysError_X12_floor : GoodIn wsX12_laysError (va_wsS RX12 385 yX12_floor wsX12_floor) := goodIn_app (goodIn_r _ [32, 33, 10] rfl (by decide +kernel)) ggX12_laysError_X12_floor
noncomputable def zc_wsX12_passes : List (List Cond) := [wsX12_passes_r1, wsX12_passes_r2, wsX12_passes_r3, wsX120]
set_option maxRecDepth 20000 in
theorem zc_wsX12_passes_in : ∀ l ∈ zc_wsX12_passes, ∀ w ∈ l, w ∈ wsX12_passes := by
  intro l hl
  unfold zc_wsX12_passes at hl
  rcases List.mem_cons.mp hl with e | hl
  · rw [e]
    exact fun w h => List.mem_cons_of_mem _ (List.mem_append_left _ (List.mem_append_left _ h))
  rcases List.mem_cons.mp hl with e | hl
  · rw [e]
    exact fun w h => List.mem_cons_of_mem _ (List.mem_append_left _ (List.mem_append_right _ (List.mem_append_left _ h)))
  rcases List.mem_cons.mp hl with e | hl
  · rw [e]
    exact fun w h => List.mem_cons_of_mem _ (List.mem_append_left _ (List.mem_append_right _ (List.mem_append_right _ h)))
  rcases List.mem_cons.mp hl with e | hl
  · rw [e]
    exact fun w h => List.mem_cons_of_mem _ (List.mem_append_right _ h)
  cases hl
theorem zB_X12_passes_X120 : ∀ w ∈ wsX120, w ∈ wsX12_passes := fun _ h => List.mem_cons_of_mem _ (List.mem_append_right _ h)
set_option maxRecDepth 100000 in
theorem ggX12_passes_X12_laysRange : GoodIn wsX12_passes wsX12_laysRange := goodIn_hd (goodIn_c zc_wsX12_passes_in [(0, 11)] rfl (by decide +kernel)) (goodIn_app (goodIn_app (goodIn_c zc_wsX12_passes_in [(0, 12), (0, 13), (0, 14), (0, 15), (0, 16), (0, 17), (0, 18), (0, 19), (0, 20), (0, 21), (0, 10), (0, 22), (0, 23), (1, 0), (1, 1), (1, 2), (1, 3), (1, 4), (1, 5), (1, 6), (1, 7), (1, 8), (1, 9), (1, 10)] rfl (by decide +kernel)) (goodIn_c zc_wsX12_passes_in [(1, 11), (1, 12), (1, 13), (1, 14), (1, 15), (1, 16), (1, 17), (1, 18), (1, 19), (1, 20), (1, 21), (1, 22)] rfl (by decide +kernel))) (goodIn_sub zB_X12_passes_X120 zgw_X120))
set_option maxRecDepth 100000 in
theorem gX12_passes_X12_laysRange : GoodIn wsX12_passes (wsV RX12 417 RX12 yX12_laysRange wsX12_laysRange) := goodIn_app (goodIn_r _ [8, 9, 10, 11] rfl (by decide +kernel)) ggX12_passes_X12_laysRange
set_option maxRecDepth 100000 in
theorem ggX12_passes_X12_laysError : GoodIn wsX12_passes wsX12_laysError := goodIn_hd (goodIn_c zc_wsX12_passes_in [(2, 2)] rfl (by decide +kernel)) (goodIn_app (goodIn_app (goodIn_c zc_wsX12_passes_in [(2, 3), (0, 5), (1, 11), (0, 12), (0, 3), (1, 12), (2, 4), (2, 5), (2, 6), (0, 10), (2, 7), (0, 23), (1, 0), (0, 18), (0, 16), (0, 19), (0, 20), (0, 21), (0, 22), (0, 15), (2, 8), (2, 9), (2, 10), (1, 1)] rfl (by decide +kernel)) (goodIn_c zc_wsX12_passes_in [(1, 2), (1, 3), (1, 4), (0, 17), (1, 20), (1, 21), (1, 22), (1, 14), (1, 15), (1, 16)] rfl (by decide +kernel))) (goodIn_sub zB_X12_passes_X120 zgw_X120))
set_option maxRecDepth 100000 in
theorem gX12_passes_X12_laysError : GoodIn wsX12_passes (wsV RX12 430 RX12 yX12_laysError wsX12_laysError) := goodIn_app (goodIn_r _ [48, 49, 50, 11] rfl (by decide +kernel)) ggX12_passes_X12_laysError
set_option maxRecDepth 100000 in
theorem ggX12_passes_X12_mostOf : GoodIn wsX12_passes wsX12_mostOf := goodIn_hd (goodIn_c zc_wsX12_passes_in [(2, 14)] rfl (by decide +kernel)) (goodIn_app (goodIn_c zc_wsX12_passes_in [(0, 15), (0, 17), (2, 8), (2, 9), (0, 10), (2, 10), (1, 20), (1, 21), (1, 22)] rfl (by decide +kernel)) (goodIn_sub zB_X12_passes_X120 zgw_X120))
set_option maxRecDepth 100000 in
theorem gX12_passes_X12_mostOf : GoodIn wsX12_passes (wsV RX12 420 RX12 yX12_mostOf wsX12_mostOf) := goodIn_app (goodIn_r _ [60, 61, 62, 11] rfl (by decide +kernel)) ggX12_passes_X12_mostOf
theorem zB_X12_castsTried_X120 : ∀ w ∈ wsX120, w ∈ wsX12_castsTried := fun _ h => List.mem_cons_of_mem _ (List.mem_append_right _ h)
set_option maxRecDepth 100000 in
theorem ggX12_castsTried_X12_isCast : GoodIn wsX12_castsTried wsX12_isCast := goodIn_hd (goodIn_r _ [8] rfl (by decide +kernel)) (goodIn_app (goodIn_r _ [9] rfl (by decide +kernel)) (goodIn_sub zB_X12_castsTried_X120 zgw_X120))
set_option maxRecDepth 100000 in
theorem gX12_castsTried_X12_isCast : GoodIn wsX12_castsTried (wsV RX12 433 RX12 yX12_isCast wsX12_isCast) := goodIn_app (goodIn_r _ [4, 5, 6, 7] rfl (by decide +kernel)) ggX12_castsTried_X12_isCast
theorem zB_X12_costTried_X120 : ∀ w ∈ wsX120, w ∈ wsX12_costTried := fun _ h => List.mem_cons_of_mem _ (List.mem_append_right _ h)
set_option maxRecDepth 100000 in
theorem ggX12_costTried_X12_castsTried : GoodIn wsX12_costTried wsX12_castsTried := goodIn_hd (goodIn_r _ [9] rfl (by decide +kernel)) (goodIn_app (goodIn_r _ [2, 10, 11, 12, 13, 14, 8, 15, 4] rfl (by decide +kernel)) (goodIn_sub zB_X12_costTried_X120 zgw_X120))
set_option maxRecDepth 100000 in
theorem gX12_costTried_X12_castsTried : GoodIn wsX12_costTried (wsV RX12 437 RX12 yX12_castsTried wsX12_castsTried) := goodIn_app (goodIn_r _ [5, 6, 7, 8] rfl (by decide +kernel)) ggX12_costTried_X12_castsTried
noncomputable def zc_wsX12_handPasses : List (List Cond) := [wsX12_handPasses_r1, wsX12_handPasses_r2, wsX12_handPasses_r3, wsX12_handPasses_r4, wsX120]
set_option maxRecDepth 20000 in
theorem zc_wsX12_handPasses_in : ∀ l ∈ zc_wsX12_handPasses, ∀ w ∈ l, w ∈ wsX12_handPasses := by
  intro l hl
  unfold zc_wsX12_handPasses at hl
  rcases List.mem_cons.mp hl with e | hl
  · rw [e]
    exact fun w h => List.mem_cons_of_mem _ (List.mem_append_left _ (List.mem_append_left _ h))
  rcases List.mem_cons.mp hl with e | hl
  · rw [e]
    exact fun w h => List.mem_cons_of_mem _ (List.mem_append_left _ (List.mem_append_right _ (List.mem_append_left _ h)))
  rcases List.mem_cons.mp hl with e | hl
  · rw [e]
    exact fun w h => List.mem_cons_of_mem _ (List.mem_append_left _ (List.mem_append_right _ (List.mem_append_right _ (List.mem_append_left _ h))))
  rcases List.mem_cons.mp hl with e | hl
  · rw [e]
    exact fun w h => List.mem_cons_of_mem _ (List.mem_append_left _ (List.mem_append_right _ (List.mem_append_right _ (List.mem_append_right _ h))))
  rcases List.mem_cons.mp hl with e | hl
  · rw [e]
    exact fun w h => List.mem_cons_of_mem _ (List.mem_append_right _ h)
  cases hl
theorem zB_X12_handPasses_X120 : ∀ w ∈ wsX120, w ∈ wsX12_handPasses := fun _ h => List.mem_cons_of_mem _ (List.mem_append_right _ h)
set_option maxRecDepth 100000 in
theorem ggX12_handPasses_X12_triesHand : GoodIn wsX12_handPasses wsX12_triesHand := goodIn_hd (goodIn_c zc_wsX12_handPasses_in [(0, 7)] rfl (by decide +kernel)) (goodIn_app (goodIn_c zc_wsX12_handPasses_in [(0, 2), (0, 8), (0, 9)] rfl (by decide +kernel)) (goodIn_sub zB_X12_handPasses_X120 zgw_X120))
set_option maxRecDepth 100000 in
theorem gX12_handPasses_X12_triesHand : GoodIn wsX12_handPasses (wsV RX12 440 RX12 yX12_triesHand wsX12_triesHand) := goodIn_app (goodIn_r _ [4, 5, 6, 7] rfl (by decide +kernel)) ggX12_handPasses_X12_triesHand
set_option maxRecDepth 100000 in
theorem ggX12_handPasses_X12_passes : GoodIn wsX12_handPasses wsX12_passes := goodIn_hd (goodIn_c zc_wsX12_handPasses_in [(0, 13)] rfl (by decide +kernel)) (goodIn_app (goodIn_app (goodIn_c zc_wsX12_handPasses_in [(0, 14), (0, 15), (0, 2), (0, 16), (0, 17), (0, 8), (0, 18), (0, 19), (0, 20), (0, 21), (0, 6), (0, 22), (0, 23), (0, 0), (1, 0), (1, 1), (1, 2), (1, 3), (1, 4), (1, 5), (1, 6), (1, 7), (1, 8), (1, 9)] rfl (by decide +kernel)) (goodIn_app (goodIn_c zc_wsX12_handPasses_in [(1, 10), (1, 11), (1, 12), (1, 13), (1, 14), (1, 15), (1, 16), (1, 17), (1, 18), (1, 19), (1, 20), (1, 21), (1, 22), (1, 23), (2, 0), (2, 1), (2, 2), (2, 3), (2, 4), (2, 5), (2, 6), (2, 7), (2, 8), (2, 9)] rfl (by decide +kernel)) (goodIn_c zc_wsX12_handPasses_in [(2, 10), (2, 11), (2, 12), (2, 13), (2, 14), (2, 15), (2, 16), (2, 17), (2, 18), (2, 19), (2, 20), (2, 21), (2, 22), (2, 23), (3, 0)] rfl (by decide +kernel)))) (goodIn_sub zB_X12_handPasses_X120 zgw_X120))
set_option maxRecDepth 100000 in
theorem gX12_handPasses_X12_passes : GoodIn wsX12_handPasses (wsV RX12 443 RX12 yX12_passes wsX12_passes) := goodIn_app (goodIn_r _ [11, 12, 13, 7] rfl (by decide +kernel)) ggX12_handPasses_X12_passes
theorem zB_X12_chosen_X120 : ∀ w ∈ wsX120, w ∈ wsX12_chosen := fun _ h => List.mem_cons_of_mem _ (List.mem_append_right _ h)
set_option maxRecDepth 100000 in
theorem ggX12_chosen_X12_isNumber : GoodIn wsX12_chosen wsX12_isNumber := goodIn_hd (goodIn_r _ [7] rfl (by decide +kernel)) (goodIn_app (goodIn_r _ [8, 9, 10, 6, 11] rfl (by decide +kernel)) (goodIn_sub zB_X12_chosen_X120 zgw_X120))
set_option maxRecDepth 100000 in
theorem gX12_chosen_X12_isNumber : GoodIn wsX12_chosen (wsV RX12 373 RX12 yX12_isNumber wsX12_isNumber) := goodIn_app (goodIn_r _ [3, 4, 5, 6] rfl (by decide +kernel)) ggX12_chosen_X12_isNumber
noncomputable def zc_wsX12_choose : List (List Cond) := [wsX12_choose_r1, wsX12_choose_r2, wsX120]
set_option maxRecDepth 20000 in
theorem zc_wsX12_choose_in : ∀ l ∈ zc_wsX12_choose, ∀ w ∈ l, w ∈ wsX12_choose := by
  intro l hl
  unfold zc_wsX12_choose at hl
  rcases List.mem_cons.mp hl with e | hl
  · rw [e]
    exact fun w h => List.mem_cons_of_mem _ (List.mem_append_left _ (List.mem_append_left _ h))
  rcases List.mem_cons.mp hl with e | hl
  · rw [e]
    exact fun w h => List.mem_cons_of_mem _ (List.mem_append_left _ (List.mem_append_right _ h))
  rcases List.mem_cons.mp hl with e | hl
  · rw [e]
    exact fun w h => List.mem_cons_of_mem _ (List.mem_append_right _ h)
  cases hl
theorem zB_X12_choose_X120 : ∀ w ∈ wsX120, w ∈ wsX12_choose := fun _ h => List.mem_cons_of_mem _ (List.mem_append_right _ h)
set_option maxRecDepth 100000 in
theorem ggX12_choose_X12_isNumber : GoodIn wsX12_choose wsX12_isNumber := goodIn_hd (goodIn_c zc_wsX12_choose_in [(0, 8)] rfl (by decide +kernel)) (goodIn_app (goodIn_c zc_wsX12_choose_in [(0, 3), (0, 9), (0, 10), (0, 7), (0, 11)] rfl (by decide +kernel)) (goodIn_sub zB_X12_choose_X120 zgw_X120))
set_option maxRecDepth 100000 in
theorem gX12_choose_X12_isNumber : GoodIn wsX12_choose (wsV RX12 373 RX12 yX12_isNumber wsX12_isNumber) := goodIn_app (goodIn_r _ [5, 6, 7, 8] rfl (by decide +kernel)) ggX12_choose_X12_isNumber
set_option maxRecDepth 100000 in
theorem ggX12_choose_X12_isFormat : GoodIn wsX12_choose wsX12_isFormat := goodIn_hd (goodIn_c zc_wsX12_choose_in [(0, 15)] rfl (by decide +kernel)) (goodIn_app (goodIn_c zc_wsX12_choose_in [(0, 16), (0, 9), (0, 10), (0, 7), (0, 11)] rfl (by decide +kernel)) (goodIn_sub zB_X12_choose_X120 zgw_X120))
set_option maxRecDepth 100000 in
theorem gX12_choose_X12_isFormat : GoodIn wsX12_choose (wsV RX12 370 RX12 yX12_isFormat wsX12_isFormat) := goodIn_app (goodIn_r _ [13, 14, 15, 8] rfl (by decide +kernel)) ggX12_choose_X12_isFormat
set_option maxRecDepth 100000 in
theorem ggX12_choose_X12_isFree : GoodIn wsX12_choose wsX12_isFree := goodIn_hd (goodIn_c zc_wsX12_choose_in [(0, 20)] rfl (by decide +kernel)) (goodIn_app (goodIn_c zc_wsX12_choose_in [(0, 3), (0, 1), (0, 21)] rfl (by decide +kernel)) (goodIn_sub zB_X12_choose_X120 zgw_X120))
set_option maxRecDepth 100000 in
theorem gX12_choose_X12_isFree : GoodIn wsX12_choose (wsV RX12 355 RX12 yX12_isFree wsX12_isFree) := goodIn_app (goodIn_r _ [18, 19, 20, 8] rfl (by decide +kernel)) ggX12_choose_X12_isFree
set_option maxRecDepth 100000 in
theorem ggX12_choose_X12_refuses : GoodIn wsX12_choose wsX12_refuses := goodIn_hd (goodIn_c zc_wsX12_choose_in [(1, 1)] rfl (by decide +kernel)) (goodIn_app (goodIn_c zc_wsX12_choose_in [(1, 2)] rfl (by decide +kernel)) (goodIn_sub zB_X12_choose_X120 zgw_X120))
set_option maxRecDepth 100000 in
theorem gX12_choose_X12_refuses : GoodIn wsX12_choose (wsV RX12 216 RX12 yX12_refuses wsX12_refuses) := goodIn_app (goodIn_r _ [23, 24, 25, 8] rfl (by decide +kernel)) ggX12_choose_X12_refuses
noncomputable def zc_wsX12_cost : List (List Cond) := [wsX12_cost_r1, wsX12_cost_r2, wsX120]
set_option maxRecDepth 20000 in
theorem zc_wsX12_cost_in : ∀ l ∈ zc_wsX12_cost, ∀ w ∈ l, w ∈ wsX12_cost := by
  intro l hl
  unfold zc_wsX12_cost at hl
  rcases List.mem_cons.mp hl with e | hl
  · rw [e]
    exact fun w h => List.mem_cons_of_mem _ (List.mem_append_left _ (List.mem_append_left _ h))
  rcases List.mem_cons.mp hl with e | hl
  · rw [e]
    exact fun w h => List.mem_cons_of_mem _ (List.mem_append_left _ (List.mem_append_right _ h))
  rcases List.mem_cons.mp hl with e | hl
  · rw [e]
    exact fun w h => List.mem_cons_of_mem _ (List.mem_append_right _ h)
  cases hl
theorem zB_X12_cost_X120 : ∀ w ∈ wsX120, w ∈ wsX12_cost := fun _ h => List.mem_cons_of_mem _ (List.mem_append_right _ h)
set_option maxRecDepth 100000 in
theorem ggX12_cost_X12_isThere : GoodIn wsX12_cost wsX12_isThere := goodIn_hd (goodIn_c zc_wsX12_cost_in [(0, 4)] rfl (by decide +kernel)) (goodIn_app (goodIn_c zc_wsX12_cost_in [(0, 5), (0, 6)] rfl (by decide +kernel)) (goodIn_sub zB_X12_cost_X120 zgw_X120))
set_option maxRecDepth 100000 in
theorem gX12_cost_X12_isThere : GoodIn wsX12_cost (wsV RX12 446 RX12 yX12_isThere wsX12_isThere) := goodIn_app (goodIn_r _ [1, 2, 3, 4] rfl (by decide +kernel)) ggX12_cost_X12_isThere
set_option maxRecDepth 100000 in
theorem ggX12_cost_X12_triesHand : GoodIn wsX12_cost wsX12_triesHand := goodIn_hd (goodIn_c zc_wsX12_cost_in [(0, 10)] rfl (by decide +kernel)) (goodIn_app (goodIn_c zc_wsX12_cost_in [(0, 6), (0, 11), (0, 12)] rfl (by decide +kernel)) (goodIn_sub zB_X12_cost_X120 zgw_X120))
set_option maxRecDepth 100000 in
theorem gX12_cost_X12_triesHand : GoodIn wsX12_cost (wsV RX12 440 RX12 yX12_triesHand wsX12_triesHand) := goodIn_app (goodIn_r _ [8, 9, 10, 4] rfl (by decide +kernel)) ggX12_cost_X12_triesHand
set_option maxRecDepth 100000 in
theorem ggX12_cost_X12_costTried : GoodIn wsX12_cost wsX12_costTried := goodIn_hd (goodIn_c zc_wsX12_cost_in [(0, 16)] rfl (by decide +kernel)) (goodIn_app (goodIn_c zc_wsX12_cost_in [(0, 17), (0, 6), (0, 18), (0, 11), (0, 19), (0, 20), (0, 21), (0, 3), (0, 22), (0, 23), (1, 0), (1, 1), (1, 2), (1, 3), (1, 4)] rfl (by decide +kernel)) (goodIn_sub zB_X12_cost_X120 zgw_X120))
set_option maxRecDepth 100000 in
theorem gX12_cost_X12_costTried : GoodIn wsX12_cost (wsV RX12 449 RX12 yX12_costTried wsX12_costTried) := goodIn_app (goodIn_r _ [14, 15, 16, 4] rfl (by decide +kernel)) ggX12_cost_X12_costTried
theorem zB_X12_casts_X120 : ∀ w ∈ wsX120, w ∈ wsX12_casts := fun _ h => List.mem_cons_of_mem _ (List.mem_append_right _ h)
set_option maxRecDepth 100000 in
theorem ggX12_casts_X12_isThere : GoodIn wsX12_casts wsX12_isThere := goodIn_hd (goodIn_r _ [5] rfl (by decide +kernel)) (goodIn_app (goodIn_r _ [6, 7] rfl (by decide +kernel)) (goodIn_sub zB_X12_casts_X120 zgw_X120))
set_option maxRecDepth 100000 in
theorem gX12_casts_X12_isThere : GoodIn wsX12_casts (wsV RX12 446 RX12 yX12_isThere wsX12_isThere) := goodIn_app (goodIn_r _ [1, 2, 3, 4] rfl (by decide +kernel)) ggX12_casts_X12_isThere
set_option maxRecDepth 100000 in
theorem ggX12_casts_X12_triesHand : GoodIn wsX12_casts wsX12_triesHand := goodIn_hd (goodIn_r _ [11] rfl (by decide +kernel)) (goodIn_app (goodIn_r _ [7, 12, 13] rfl (by decide +kernel)) (goodIn_sub zB_X12_casts_X120 zgw_X120))
set_option maxRecDepth 100000 in
theorem gX12_casts_X12_triesHand : GoodIn wsX12_casts (wsV RX12 440 RX12 yX12_triesHand wsX12_triesHand) := goodIn_app (goodIn_r _ [8, 9, 10, 4] rfl (by decide +kernel)) ggX12_casts_X12_triesHand
set_option maxRecDepth 100000 in
theorem ggX12_casts_X12_castsTried : GoodIn wsX12_casts wsX12_castsTried := goodIn_hd (goodIn_r _ [17] rfl (by decide +kernel)) (goodIn_app (goodIn_r _ [7, 18, 19, 20, 21, 22, 4, 23, 12] rfl (by decide +kernel)) (goodIn_sub zB_X12_casts_X120 zgw_X120))
set_option maxRecDepth 100000 in
theorem gX12_casts_X12_castsTried : GoodIn wsX12_casts (wsV RX12 437 RX12 yX12_castsTried wsX12_castsTried) := goodIn_app (goodIn_r _ [14, 15, 16, 4] rfl (by decide +kernel)) ggX12_casts_X12_castsTried
noncomputable def zc_wsX12_fails : List (List Cond) := [wsX12_fails_r1, wsX12_fails_r2, wsX12_fails_r3, wsX12_fails_r4, wsX120]
set_option maxRecDepth 20000 in
theorem zc_wsX12_fails_in : ∀ l ∈ zc_wsX12_fails, ∀ w ∈ l, w ∈ wsX12_fails := by
  intro l hl
  unfold zc_wsX12_fails at hl
  rcases List.mem_cons.mp hl with e | hl
  · rw [e]
    exact fun w h => List.mem_cons_of_mem _ (List.mem_append_left _ (List.mem_append_left _ h))
  rcases List.mem_cons.mp hl with e | hl
  · rw [e]
    exact fun w h => List.mem_cons_of_mem _ (List.mem_append_left _ (List.mem_append_right _ (List.mem_append_left _ h)))
  rcases List.mem_cons.mp hl with e | hl
  · rw [e]
    exact fun w h => List.mem_cons_of_mem _ (List.mem_append_left _ (List.mem_append_right _ (List.mem_append_right _ (List.mem_append_left _ h))))
  rcases List.mem_cons.mp hl with e | hl
  · rw [e]
    exact fun w h => List.mem_cons_of_mem _ (List.mem_append_left _ (List.mem_append_right _ (List.mem_append_right _ (List.mem_append_right _ h))))
  rcases List.mem_cons.mp hl with e | hl
  · rw [e]
    exact fun w h => List.mem_cons_of_mem _ (List.mem_append_right _ h)
  cases hl
theorem zB_X12_fails_X120 : ∀ w ∈ wsX120, w ∈ wsX12_fails := fun _ h => List.mem_cons_of_mem _ (List.mem_append_right _ h)
set_option maxRecDepth 100000 in
theorem ggX12_fails_X12_isThere : GoodIn wsX12_fails wsX12_isThere := goodIn_hd (goodIn_c zc_wsX12_fails_in [(0, 5)] rfl (by decide +kernel)) (goodIn_app (goodIn_c zc_wsX12_fails_in [(0, 6), (0, 7)] rfl (by decide +kernel)) (goodIn_sub zB_X12_fails_X120 zgw_X120))
set_option maxRecDepth 100000 in
theorem gX12_fails_X12_isThere : GoodIn wsX12_fails (wsV RX12 446 RX12 yX12_isThere wsX12_isThere) := goodIn_app (goodIn_r _ [2, 3, 4, 5] rfl (by decide +kernel)) ggX12_fails_X12_isThere
set_option maxRecDepth 100000 in
theorem ggX12_fails_X12_handPasses : GoodIn wsX12_fails wsX12_handPasses := goodIn_hd (goodIn_c zc_wsX12_fails_in [(0, 11)] rfl (by decide +kernel)) (goodIn_app (goodIn_app (goodIn_c zc_wsX12_fails_in [(0, 12), (0, 6), (0, 7), (0, 13), (0, 14), (0, 15), (0, 4), (0, 16), (0, 17), (0, 18), (0, 19), (0, 20), (0, 21), (0, 22), (0, 0), (0, 23), (1, 0), (1, 1), (1, 2), (1, 3), (1, 4), (1, 5), (1, 6), (1, 7)] rfl (by decide +kernel)) (goodIn_app (goodIn_c zc_wsX12_fails_in [(1, 8), (1, 9), (1, 10), (1, 11), (1, 12), (1, 13), (1, 14), (1, 15), (1, 16), (1, 17), (1, 18), (1, 19), (1, 20), (1, 21), (1, 22), (1, 23), (2, 0), (2, 1), (2, 2), (2, 3), (2, 4), (2, 5), (2, 6), (2, 7)] rfl (by decide +kernel)) (goodIn_app (goodIn_c zc_wsX12_fails_in [(2, 8), (2, 9), (2, 10), (2, 11), (2, 12), (2, 13), (2, 14), (2, 15), (2, 16), (2, 17), (2, 18), (2, 19), (2, 20), (2, 21), (2, 22), (2, 23), (3, 0), (3, 1), (3, 2), (3, 3), (3, 4), (3, 5), (3, 6), (3, 7)] rfl (by decide +kernel)) (goodIn_c zc_wsX12_fails_in [(3, 8)] rfl (by decide +kernel))))) (goodIn_sub zB_X12_fails_X120 zgw_X120))
set_option maxRecDepth 100000 in
theorem gX12_fails_X12_handPasses : GoodIn wsX12_fails (wsV RX12 452 RX12 yX12_handPasses wsX12_handPasses) := goodIn_app (goodIn_r _ [9, 10, 11, 5] rfl (by decide +kernel)) ggX12_fails_X12_handPasses
noncomputable def zc_wsX12_why : List (List Cond) := [wsX12_why_r1, wsX12_why_r2, wsX12_why_r3, wsX12_why_r4, wsX120]
set_option maxRecDepth 20000 in
theorem zc_wsX12_why_in : ∀ l ∈ zc_wsX12_why, ∀ w ∈ l, w ∈ wsX12_why := by
  intro l hl
  unfold zc_wsX12_why at hl
  rcases List.mem_cons.mp hl with e | hl
  · rw [e]
    exact fun w h => List.mem_cons_of_mem _ (List.mem_append_left _ (List.mem_append_left _ h))
  rcases List.mem_cons.mp hl with e | hl
  · rw [e]
    exact fun w h => List.mem_cons_of_mem _ (List.mem_append_left _ (List.mem_append_right _ (List.mem_append_left _ h)))
  rcases List.mem_cons.mp hl with e | hl
  · rw [e]
    exact fun w h => List.mem_cons_of_mem _ (List.mem_append_left _ (List.mem_append_right _ (List.mem_append_right _ (List.mem_append_left _ h))))
  rcases List.mem_cons.mp hl with e | hl
  · rw [e]
    exact fun w h => List.mem_cons_of_mem _ (List.mem_append_left _ (List.mem_append_right _ (List.mem_append_right _ (List.mem_append_right _ h))))
  rcases List.mem_cons.mp hl with e | hl
  · rw [e]
    exact fun w h => List.mem_cons_of_mem _ (List.mem_append_right _ h)
  cases hl
theorem zB_X12_why_X120 : ∀ w ∈ wsX120, w ∈ wsX12_why := fun _ h => List.mem_cons_of_mem _ (List.mem_append_right _ h)
set_option maxRecDepth 100000 in
theorem ggX12_why_X12_isThere : GoodIn wsX12_why wsX12_isThere := goodIn_hd (goodIn_c zc_wsX12_why_in [(0, 5)] rfl (by decide +kernel)) (goodIn_app (goodIn_c zc_wsX12_why_in [(0, 6), (0, 7)] rfl (by decide +kernel)) (goodIn_sub zB_X12_why_X120 zgw_X120))
set_option maxRecDepth 100000 in
theorem gX12_why_X12_isThere : GoodIn wsX12_why (wsV RX12 446 RX12 yX12_isThere wsX12_isThere) := goodIn_app (goodIn_r _ [2, 3, 4, 5] rfl (by decide +kernel)) ggX12_why_X12_isThere
set_option maxRecDepth 100000 in
theorem ggX12_why_X12_handPasses : GoodIn wsX12_why wsX12_handPasses := goodIn_hd (goodIn_c zc_wsX12_why_in [(0, 11)] rfl (by decide +kernel)) (goodIn_app (goodIn_app (goodIn_c zc_wsX12_why_in [(0, 12), (0, 6), (0, 7), (0, 13), (0, 14), (0, 15), (0, 4), (0, 16), (0, 17), (0, 18), (0, 19), (0, 20), (0, 21), (0, 22), (0, 23), (0, 0), (1, 0), (1, 1), (1, 2), (1, 3), (1, 4), (1, 5), (1, 6), (1, 7)] rfl (by decide +kernel)) (goodIn_app (goodIn_c zc_wsX12_why_in [(1, 8), (1, 9), (1, 10), (1, 11), (1, 12), (1, 13), (1, 14), (1, 15), (1, 16), (1, 17), (1, 18), (1, 19), (1, 20), (1, 21), (1, 22), (1, 23), (2, 0), (2, 1), (2, 2), (2, 3), (2, 4), (2, 5), (2, 6), (2, 7)] rfl (by decide +kernel)) (goodIn_app (goodIn_c zc_wsX12_why_in [(2, 8), (2, 9), (2, 10), (2, 11), (2, 12), (2, 13), (2, 14), (2, 15), (2, 16), (2, 17), (2, 18), (2, 19), (2, 20), (2, 21), (2, 22), (2, 23), (3, 0), (3, 1), (3, 2), (3, 3), (3, 4), (3, 5), (3, 6), (3, 7)] rfl (by decide +kernel)) (goodIn_c zc_wsX12_why_in [(3, 8)] rfl (by decide +kernel))))) (goodIn_sub zB_X12_why_X120 zgw_X120))
set_option maxRecDepth 100000 in
theorem gX12_why_X12_handPasses : GoodIn wsX12_why (wsV RX12 452 RX12 yX12_handPasses wsX12_handPasses) := goodIn_app (goodIn_r _ [9, 10, 11, 5] rfl (by decide +kernel)) ggX12_why_X12_handPasses
noncomputable def zc_wsX12_error : List (List Cond) := [wsX12_error_r1, wsX12_error_r2, wsX12_error_r3, wsX12_error_r4, wsX120]
set_option maxRecDepth 20000 in
theorem zc_wsX12_error_in : ∀ l ∈ zc_wsX12_error, ∀ w ∈ l, w ∈ wsX12_error := by
  intro l hl
  unfold zc_wsX12_error at hl
  rcases List.mem_cons.mp hl with e | hl
  · rw [e]
    exact fun w h => List.mem_cons_of_mem _ (List.mem_append_left _ (List.mem_append_left _ h))
  rcases List.mem_cons.mp hl with e | hl
  · rw [e]
    exact fun w h => List.mem_cons_of_mem _ (List.mem_append_left _ (List.mem_append_right _ (List.mem_append_left _ h)))
  rcases List.mem_cons.mp hl with e | hl
  · rw [e]
    exact fun w h => List.mem_cons_of_mem _ (List.mem_append_left _ (List.mem_append_right _ (List.mem_append_right _ (List.mem_append_left _ h))))
  rcases List.mem_cons.mp hl with e | hl
  · rw [e]
    exact fun w h => List.mem_cons_of_mem _ (List.mem_append_left _ (List.mem_append_right _ (List.mem_append_right _ (List.mem_append_right _ h))))
  rcases List.mem_cons.mp hl with e | hl
  · rw [e]
    exact fun w h => List.mem_cons_of_mem _ (List.mem_append_right _ h)
  cases hl
theorem zB_X12_error_X120 : ∀ w ∈ wsX120, w ∈ wsX12_error := fun _ h => List.mem_cons_of_mem _ (List.mem_append_right _ h)
set_option maxRecDepth 100000 in
theorem ggX12_error_X12_isThere : GoodIn wsX12_error wsX12_isThere := goodIn_hd (goodIn_c zc_wsX12_error_in [(0, 7)] rfl (by decide +kernel)) (goodIn_app (goodIn_c zc_wsX12_error_in [(0, 8), (0, 9)] rfl (by decide +kernel)) (goodIn_sub zB_X12_error_X120 zgw_X120))
set_option maxRecDepth 100000 in
theorem gX12_error_X12_isThere : GoodIn wsX12_error (wsV RX12 446 RX12 yX12_isThere wsX12_isThere) := goodIn_app (goodIn_r _ [4, 5, 6, 7] rfl (by decide +kernel)) ggX12_error_X12_isThere
set_option maxRecDepth 100000 in
theorem ggX12_error_X12_isNumber : GoodIn wsX12_error wsX12_isNumber := goodIn_hd (goodIn_c zc_wsX12_error_in [(0, 13)] rfl (by decide +kernel)) (goodIn_app (goodIn_c zc_wsX12_error_in [(0, 9), (0, 14), (0, 15), (0, 6), (0, 16)] rfl (by decide +kernel)) (goodIn_sub zB_X12_error_X120 zgw_X120))
set_option maxRecDepth 100000 in
theorem gX12_error_X12_isNumber : GoodIn wsX12_error (wsV RX12 373 RX12 yX12_isNumber wsX12_isNumber) := goodIn_app (goodIn_r _ [11, 12, 13, 7] rfl (by decide +kernel)) ggX12_error_X12_isNumber
set_option maxRecDepth 100000 in
theorem ggX12_error_X12_handPasses : GoodIn wsX12_error wsX12_handPasses := goodIn_hd (goodIn_c zc_wsX12_error_in [(0, 20)] rfl (by decide +kernel)) (goodIn_app (goodIn_app (goodIn_c zc_wsX12_error_in [(0, 21), (0, 8), (0, 9), (0, 22), (0, 23), (1, 0), (0, 6), (1, 1), (1, 2), (1, 3), (1, 4), (1, 5), (1, 6), (1, 7), (0, 1), (1, 8), (0, 2), (1, 9), (1, 10), (1, 11), (1, 12), (1, 13), (1, 14), (1, 15)] rfl (by decide +kernel)) (goodIn_app (goodIn_c zc_wsX12_error_in [(1, 16), (1, 17), (1, 18), (1, 19), (1, 20), (1, 21), (1, 22), (1, 23), (2, 0), (2, 1), (2, 2), (2, 3), (2, 4), (2, 5), (2, 6), (2, 7), (2, 8), (2, 9), (2, 10), (2, 11), (2, 12), (2, 13), (2, 14), (2, 15)] rfl (by decide +kernel)) (goodIn_app (goodIn_c zc_wsX12_error_in [(2, 16), (2, 17), (2, 18), (2, 19), (2, 20), (2, 21), (2, 22), (2, 23), (3, 0), (3, 1), (3, 2), (3, 3), (3, 4), (3, 5), (3, 6), (3, 7), (3, 8), (3, 9), (3, 10), (3, 11), (3, 12), (3, 13), (3, 14), (3, 15)] rfl (by decide +kernel)) (goodIn_c zc_wsX12_error_in [(3, 16)] rfl (by decide +kernel))))) (goodIn_sub zB_X12_error_X120 zgw_X120))
set_option maxRecDepth 100000 in
theorem gX12_error_X12_handPasses : GoodIn wsX12_error (wsV RX12 452 RX12 yX12_handPasses wsX12_handPasses) := goodIn_app (goodIn_r _ [18, 19, 20, 7] rfl (by decide +kernel)) ggX12_error_X12_handPasses
theorem zB_X12_isAnswer_X120 : ∀ w ∈ wsX120, w ∈ wsX12_isAnswer := fun _ h => List.mem_cons_of_mem _ (List.mem_append_right _ h)
set_option maxRecDepth 100000 in
theorem ggX12_isAnswer_X12_isNumber : GoodIn wsX12_isAnswer wsX12_isNumber := goodIn_hd (goodIn_r _ [6] rfl (by decide +kernel)) (goodIn_app (goodIn_r _ [7, 8, 9, 5, 10] rfl (by decide +kernel)) (goodIn_sub zB_X12_isAnswer_X120 zgw_X120))
set_option maxRecDepth 100000 in
theorem gX12_isAnswer_X12_isNumber : GoodIn wsX12_isAnswer (wsV RX12 373 RX12 yX12_isNumber wsX12_isNumber) := goodIn_app (goodIn_r _ [2, 3, 4, 5] rfl (by decide +kernel)) ggX12_isAnswer_X12_isNumber
noncomputable def zc_wsX12_slack : List (List Cond) := [wsX12_slack_r1, wsX12_slack_r2, wsX12_slack_r3, wsX12_slack_r4, wsX120]
set_option maxRecDepth 20000 in
theorem zc_wsX12_slack_in : ∀ l ∈ zc_wsX12_slack, ∀ w ∈ l, w ∈ wsX12_slack := by
  intro l hl
  unfold zc_wsX12_slack at hl
  rcases List.mem_cons.mp hl with e | hl
  · rw [e]
    exact fun w h => List.mem_cons_of_mem _ (List.mem_append_left _ (List.mem_append_left _ h))
  rcases List.mem_cons.mp hl with e | hl
  · rw [e]
    exact fun w h => List.mem_cons_of_mem _ (List.mem_append_left _ (List.mem_append_right _ (List.mem_append_left _ h)))
  rcases List.mem_cons.mp hl with e | hl
  · rw [e]
    exact fun w h => List.mem_cons_of_mem _ (List.mem_append_left _ (List.mem_append_right _ (List.mem_append_right _ (List.mem_append_left _ h))))
  rcases List.mem_cons.mp hl with e | hl
  · rw [e]
    exact fun w h => List.mem_cons_of_mem _ (List.mem_append_left _ (List.mem_append_right _ (List.mem_append_right _ (List.mem_append_right _ h))))
  rcases List.mem_cons.mp hl with e | hl
  · rw [e]
    exact fun w h => List.mem_cons_of_mem _ (List.mem_append_right _ h)
  cases hl
theorem zB_X12_slack_X120 : ∀ w ∈ wsX120, w ∈ wsX12_slack := fun _ h => List.mem_cons_of_mem _ (List.mem_append_right _ h)
set_option maxRecDepth 100000 in
theorem ggX12_slack_X12_isAnswer : GoodIn wsX12_slack wsX12_isAnswer := goodIn_hd (goodIn_c zc_wsX12_slack_in [(0, 7)] rfl (by decide +kernel)) (goodIn_app (goodIn_c zc_wsX12_slack_in [(0, 0), (0, 8), (0, 9), (0, 10), (0, 6), (0, 11), (0, 12), (0, 13), (0, 14), (0, 15)] rfl (by decide +kernel)) (goodIn_sub zB_X12_slack_X120 zgw_X120))
set_option maxRecDepth 100000 in
theorem gX12_slack_X12_isAnswer : GoodIn wsX12_slack (wsV RX12 455 RX12 yX12_isAnswer wsX12_isAnswer) := goodIn_app (goodIn_r _ [4, 5, 6, 7] rfl (by decide +kernel)) ggX12_slack_X12_isAnswer
set_option maxRecDepth 100000 in
theorem ggX12_slack_X12_handPasses : GoodIn wsX12_slack wsX12_handPasses := goodIn_hd (goodIn_c zc_wsX12_slack_in [(0, 19)] rfl (by decide +kernel)) (goodIn_app (goodIn_app (goodIn_c zc_wsX12_slack_in [(0, 20), (0, 21), (0, 12), (0, 22), (0, 23), (1, 0), (0, 6), (1, 1), (1, 2), (1, 3), (1, 4), (1, 5), (1, 6), (1, 7), (1, 8), (1, 9), (0, 1), (1, 10), (0, 0), (1, 11), (1, 12), (1, 13), (1, 14), (1, 15)] rfl (by decide +kernel)) (goodIn_app (goodIn_c zc_wsX12_slack_in [(1, 16), (1, 17), (1, 18), (1, 19), (1, 20), (1, 21), (1, 22), (1, 23), (2, 0), (2, 1), (2, 2), (2, 3), (2, 4), (2, 5), (2, 6), (2, 7), (2, 8), (2, 9), (2, 10), (2, 11), (2, 12), (2, 13), (2, 14), (2, 15)] rfl (by decide +kernel)) (goodIn_app (goodIn_c zc_wsX12_slack_in [(2, 16), (2, 17), (2, 18), (2, 19), (2, 20), (2, 21), (2, 22), (2, 23), (3, 0), (3, 1), (3, 2), (3, 3), (3, 4), (3, 5), (3, 6), (3, 7), (3, 8), (3, 9), (3, 10), (3, 11), (3, 12), (3, 13), (3, 14), (3, 15)] rfl (by decide +kernel)) (goodIn_c zc_wsX12_slack_in [(3, 16)] rfl (by decide +kernel))))) (goodIn_sub zB_X12_slack_X120 zgw_X120))
set_option maxRecDepth 100000 in
theorem gX12_slack_X12_handPasses : GoodIn wsX12_slack (wsV RX12 452 RX12 yX12_handPasses wsX12_handPasses) := goodIn_app (goodIn_r _ [17, 18, 19, 7] rfl (by decide +kernel)) ggX12_slack_X12_handPasses
noncomputable def zc_wsX12_widest : List (List Cond) := [wsX12_widest_r1, wsX12_widest_r2, wsX12_widest_r3, wsX12_widest_r4, wsX120]
set_option maxRecDepth 20000 in
theorem zc_wsX12_widest_in : ∀ l ∈ zc_wsX12_widest, ∀ w ∈ l, w ∈ wsX12_widest := by
  intro l hl
  unfold zc_wsX12_widest at hl
  rcases List.mem_cons.mp hl with e | hl
  · rw [e]
    exact fun w h => List.mem_cons_of_mem _ (List.mem_append_left _ (List.mem_append_left _ h))
  rcases List.mem_cons.mp hl with e | hl
  · rw [e]
    exact fun w h => List.mem_cons_of_mem _ (List.mem_append_left _ (List.mem_append_right _ (List.mem_append_left _ h)))
  rcases List.mem_cons.mp hl with e | hl
  · rw [e]
    exact fun w h => List.mem_cons_of_mem _ (List.mem_append_left _ (List.mem_append_right _ (List.mem_append_right _ (List.mem_append_left _ h))))
  rcases List.mem_cons.mp hl with e | hl
  · rw [e]
    exact fun w h => List.mem_cons_of_mem _ (List.mem_append_left _ (List.mem_append_right _ (List.mem_append_right _ (List.mem_append_right _ h))))
  rcases List.mem_cons.mp hl with e | hl
  · rw [e]
    exact fun w h => List.mem_cons_of_mem _ (List.mem_append_right _ h)
  cases hl
theorem zB_X12_widest_X120 : ∀ w ∈ wsX120, w ∈ wsX12_widest := fun _ h => List.mem_cons_of_mem _ (List.mem_append_right _ h)
set_option maxRecDepth 100000 in
theorem ggX12_widest_X12_isNumber : GoodIn wsX12_widest wsX12_isNumber := goodIn_hd (goodIn_c zc_wsX12_widest_in [(0, 8)] rfl (by decide +kernel)) (goodIn_app (goodIn_c zc_wsX12_widest_in [(0, 9), (0, 10), (0, 11), (0, 7), (0, 12)] rfl (by decide +kernel)) (goodIn_sub zB_X12_widest_X120 zgw_X120))
set_option maxRecDepth 100000 in
theorem gX12_widest_X12_isNumber : GoodIn wsX12_widest (wsV RX12 373 RX12 yX12_isNumber wsX12_isNumber) := goodIn_app (goodIn_r _ [5, 6, 7, 8] rfl (by decide +kernel)) ggX12_widest_X12_isNumber
set_option maxRecDepth 100000 in
theorem ggX12_widest_X12_handPasses : GoodIn wsX12_widest wsX12_handPasses := goodIn_hd (goodIn_c zc_wsX12_widest_in [(0, 16)] rfl (by decide +kernel)) (goodIn_app (goodIn_app (goodIn_c zc_wsX12_widest_in [(0, 2), (0, 17), (0, 9), (0, 18), (0, 19), (0, 20), (0, 7), (0, 21), (0, 22), (0, 23), (1, 0), (1, 1), (1, 2), (1, 3), (1, 4), (1, 5), (1, 6), (1, 7), (1, 8), (1, 9), (1, 10), (1, 11), (1, 12), (0, 0)] rfl (by decide +kernel)) (goodIn_app (goodIn_c zc_wsX12_widest_in [(0, 3), (1, 13), (1, 14), (1, 15), (1, 16), (1, 17), (1, 18), (1, 19), (1, 20), (1, 21), (1, 22), (1, 23), (2, 0), (2, 1), (2, 2), (2, 3), (2, 4), (2, 5), (2, 6), (2, 7), (2, 8), (2, 9), (2, 10), (2, 11)] rfl (by decide +kernel)) (goodIn_app (goodIn_c zc_wsX12_widest_in [(2, 12), (2, 13), (2, 14), (2, 15), (2, 16), (2, 17), (2, 18), (2, 19), (2, 20), (2, 21), (2, 22), (2, 23), (3, 0), (3, 1), (3, 2), (3, 3), (3, 4), (3, 5), (3, 6), (3, 7), (3, 8), (3, 9), (3, 10), (3, 11)] rfl (by decide +kernel)) (goodIn_c zc_wsX12_widest_in [(3, 12)] rfl (by decide +kernel))))) (goodIn_sub zB_X12_widest_X120 zgw_X120))
set_option maxRecDepth 100000 in
theorem gX12_widest_X12_handPasses : GoodIn wsX12_widest (wsV RX12 452 RX12 yX12_handPasses wsX12_handPasses) := goodIn_app (goodIn_r _ [14, 15, 16, 8] rfl (by decide +kernel)) ggX12_widest_X12_handPasses
set_option maxRecDepth 100000 in
theorem ggX12_widest_X12_passes : GoodIn wsX12_widest wsX12_passes := goodIn_hd (goodIn_c zc_wsX12_widest_in [(1, 3)] rfl (by decide +kernel)) (goodIn_app (goodIn_app (goodIn_c zc_wsX12_widest_in [(1, 4), (1, 5), (0, 9), (1, 6), (1, 7), (0, 22), (1, 8), (1, 9), (1, 10), (1, 11), (0, 7), (1, 12), (0, 0), (0, 2), (0, 3), (1, 13), (1, 14), (1, 15), (1, 16), (1, 17), (1, 18), (1, 19), (1, 20), (1, 21)] rfl (by decide +kernel)) (goodIn_app (goodIn_c zc_wsX12_widest_in [(1, 22), (1, 23), (2, 0), (2, 1), (2, 2), (2, 3), (2, 4), (2, 5), (2, 6), (2, 7), (2, 8), (2, 9), (2, 10), (2, 11), (2, 12), (2, 13), (2, 14), (2, 15), (2, 16), (2, 17), (2, 18), (2, 19), (2, 20), (2, 21)] rfl (by decide +kernel)) (goodIn_c zc_wsX12_widest_in [(2, 22), (2, 23), (3, 0), (3, 1), (3, 2), (3, 3), (3, 4), (3, 5), (3, 6), (3, 7), (3, 8), (3, 9), (3, 10), (3, 11), (3, 12)] rfl (by decide +kernel)))) (goodIn_sub zB_X12_widest_X120 zgw_X120))
set_option maxRecDepth 100000 in
theorem gX12_widest_X12_passes : GoodIn wsX12_widest (wsV RX12 443 RX12 yX12_passes wsX12_passes) := goodIn_app (goodIn_r _ [25, 26, 27, 8] rfl (by decide +kernel)) ggX12_widest_X12_passes
noncomputable def zc_wsX12_blame : List (List Cond) := [wsX12_blame_r1, wsX12_blame_r2, wsX12_blame_r3, wsX12_blame_r4, wsX12_blame_r5, wsX120]
set_option maxRecDepth 20000 in
theorem zc_wsX12_blame_in : ∀ l ∈ zc_wsX12_blame, ∀ w ∈ l, w ∈ wsX12_blame := by
  intro l hl
  unfold zc_wsX12_blame at hl
  rcases List.mem_cons.mp hl with e | hl
  · rw [e]
    exact fun w h => List.mem_cons_of_mem _ (List.mem_append_left _ (List.mem_append_left _ h))
  rcases List.mem_cons.mp hl with e | hl
  · rw [e]
    exact fun w h => List.mem_cons_of_mem _ (List.mem_append_left _ (List.mem_append_right _ (List.mem_append_left _ h)))
  rcases List.mem_cons.mp hl with e | hl
  · rw [e]
    exact fun w h => List.mem_cons_of_mem _ (List.mem_append_left _ (List.mem_append_right _ (List.mem_append_right _ (List.mem_append_left _ h))))
  rcases List.mem_cons.mp hl with e | hl
  · rw [e]
    exact fun w h => List.mem_cons_of_mem _ (List.mem_append_left _ (List.mem_append_right _ (List.mem_append_right _ (List.mem_append_right _ (List.mem_append_left _ h)))))
  rcases List.mem_cons.mp hl with e | hl
  · rw [e]
    exact fun w h => List.mem_cons_of_mem _ (List.mem_append_left _ (List.mem_append_right _ (List.mem_append_right _ (List.mem_append_right _ (List.mem_append_right _ h)))))
  rcases List.mem_cons.mp hl with e | hl
  · rw [e]
    exact fun w h => List.mem_cons_of_mem _ (List.mem_append_right _ h)
  cases hl
theorem zB_X12_blame_X120 : ∀ w ∈ wsX120, w ∈ wsX12_blame := fun _ h => List.mem_cons_of_mem _ (List.mem_append_right _ h)
set_option maxRecDepth 100000 in
theorem ggX12_blame_X12_isAnswer : GoodIn wsX12_blame wsX12_isAnswer := goodIn_hd (goodIn_c zc_wsX12_blame_in [(0, 7)] rfl (by decide +kernel)) (goodIn_app (goodIn_c zc_wsX12_blame_in [(0, 8), (0, 9), (0, 10), (0, 11), (0, 6), (0, 12), (0, 13), (0, 14), (0, 15), (0, 16)] rfl (by decide +kernel)) (goodIn_sub zB_X12_blame_X120 zgw_X120))
set_option maxRecDepth 100000 in
theorem gX12_blame_X12_isAnswer : GoodIn wsX12_blame (wsV RX12 455 RX12 yX12_isAnswer wsX12_isAnswer) := goodIn_app (goodIn_r _ [4, 5, 6, 7] rfl (by decide +kernel)) ggX12_blame_X12_isAnswer
set_option maxRecDepth 100000 in
theorem ggX12_blame_X12_isNumber : GoodIn wsX12_blame wsX12_isNumber := goodIn_hd (goodIn_c zc_wsX12_blame_in [(0, 12)] rfl (by decide +kernel)) (goodIn_app (goodIn_c zc_wsX12_blame_in [(0, 13), (0, 14), (0, 15), (0, 6), (0, 16)] rfl (by decide +kernel)) (goodIn_sub zB_X12_blame_X120 zgw_X120))
set_option maxRecDepth 100000 in
theorem gX12_blame_X12_isNumber : GoodIn wsX12_blame (wsV RX12 373 RX12 yX12_isNumber wsX12_isNumber) := goodIn_app (goodIn_r _ [10, 11, 12, 7] rfl (by decide +kernel)) ggX12_blame_X12_isNumber
set_option maxRecDepth 100000 in
theorem ggX12_blame_X12_isFree : GoodIn wsX12_blame wsX12_isFree := goodIn_hd (goodIn_c zc_wsX12_blame_in [(0, 20)] rfl (by decide +kernel)) (goodIn_app (goodIn_c zc_wsX12_blame_in [(0, 13), (0, 0), (0, 21)] rfl (by decide +kernel)) (goodIn_sub zB_X12_blame_X120 zgw_X120))
set_option maxRecDepth 100000 in
theorem gX12_blame_X12_isFree : GoodIn wsX12_blame (wsV RX12 355 RX12 yX12_isFree wsX12_isFree) := goodIn_app (goodIn_r _ [18, 19, 20, 7] rfl (by decide +kernel)) ggX12_blame_X12_isFree
set_option maxRecDepth 100000 in
theorem ggX12_blame_X12_handPasses : GoodIn wsX12_blame wsX12_handPasses := goodIn_hd (goodIn_c zc_wsX12_blame_in [(1, 1)] rfl (by decide +kernel)) (goodIn_app (goodIn_app (goodIn_c zc_wsX12_blame_in [(1, 2), (1, 3), (0, 13), (1, 4), (1, 5), (1, 6), (0, 6), (1, 7), (1, 8), (1, 9), (1, 10), (1, 11), (1, 12), (1, 13), (1, 14), (1, 15), (0, 2), (1, 16), (0, 8), (1, 17), (1, 18), (1, 19), (1, 20), (1, 21)] rfl (by decide +kernel)) (goodIn_app (goodIn_c zc_wsX12_blame_in [(1, 22), (1, 23), (2, 0), (2, 1), (2, 2), (2, 3), (2, 4), (2, 5), (2, 6), (2, 7), (2, 8), (2, 9), (2, 10), (2, 11), (2, 12), (2, 13), (2, 14), (2, 15), (2, 16), (2, 17), (2, 18), (2, 19), (2, 20), (2, 21)] rfl (by decide +kernel)) (goodIn_app (goodIn_c zc_wsX12_blame_in [(2, 22), (2, 23), (3, 0), (3, 1), (3, 2), (3, 3), (3, 4), (3, 5), (3, 6), (3, 7), (3, 8), (3, 9), (3, 10), (3, 11), (3, 12), (3, 13), (3, 14), (3, 15), (3, 16), (3, 17), (3, 18), (3, 19), (3, 20), (3, 21)] rfl (by decide +kernel)) (goodIn_c zc_wsX12_blame_in [(3, 22)] rfl (by decide +kernel))))) (goodIn_sub zB_X12_blame_X120 zgw_X120))
set_option maxRecDepth 100000 in
theorem gX12_blame_X12_handPasses : GoodIn wsX12_blame (wsV RX12 452 RX12 yX12_handPasses wsX12_handPasses) := goodIn_app (goodIn_r _ [23, 24, 25, 7] rfl (by decide +kernel)) ggX12_blame_X12_handPasses
set_option maxRecDepth 100000 in
theorem ggX12_blame_X12_finest : GoodIn wsX12_blame wsX12_finest := goodIn_hd (goodIn_c zc_wsX12_blame_in [(4, 2)] rfl (by decide +kernel)) (goodIn_app (goodIn_c zc_wsX12_blame_in [(4, 3), (3, 11)] rfl (by decide +kernel)) (goodIn_sub zB_X12_blame_X120 zgw_X120))
set_option maxRecDepth 100000 in
theorem gX12_blame_X12_finest : GoodIn wsX12_blame (wsV RX12 459 RX12 yX12_finest wsX12_finest) := goodIn_app (goodIn_r _ [96, 97, 98, 7] rfl (by decide +kernel)) ggX12_blame_X12_finest
set_option maxRecDepth 100000 in
theorem ggX12_blame_X12_triesGroup : GoodIn wsX12_blame wsX12_triesGroup := goodIn_hd (goodIn_c zc_wsX12_blame_in [(4, 7)] rfl (by decide +kernel)) (goodIn_app (goodIn_c zc_wsX12_blame_in [(0, 13), (1, 8), (0, 0)] rfl (by decide +kernel)) (goodIn_sub zB_X12_blame_X120 zgw_X120))
set_option maxRecDepth 100000 in
theorem gX12_blame_X12_triesGroup : GoodIn wsX12_blame (wsV RX12 462 RX12 yX12_triesGroup wsX12_triesGroup) := goodIn_app (goodIn_r _ [101, 102, 103, 7] rfl (by decide +kernel)) ggX12_blame_X12_triesGroup
set_option maxRecDepth 100000 in
theorem ggX12_blame_X12_passes : GoodIn wsX12_blame wsX12_passes := goodIn_hd (goodIn_c zc_wsX12_blame_in [(1, 13)] rfl (by decide +kernel)) (goodIn_app (goodIn_app (goodIn_c zc_wsX12_blame_in [(1, 14), (1, 15), (0, 13), (0, 2), (1, 16), (1, 8), (0, 8), (1, 17), (1, 18), (1, 19), (0, 6), (1, 20), (1, 21), (1, 2), (1, 22), (1, 23), (2, 0), (2, 1), (2, 2), (2, 3), (2, 4), (2, 5), (2, 6), (2, 7)] rfl (by decide +kernel)) (goodIn_app (goodIn_c zc_wsX12_blame_in [(2, 8), (2, 9), (2, 10), (2, 11), (2, 12), (2, 13), (2, 14), (2, 15), (2, 16), (2, 17), (2, 18), (2, 19), (2, 20), (2, 21), (2, 22), (2, 23), (3, 0), (3, 1), (3, 2), (3, 3), (3, 4), (3, 5), (3, 6), (3, 7)] rfl (by decide +kernel)) (goodIn_c zc_wsX12_blame_in [(3, 8), (3, 9), (3, 10), (3, 11), (3, 12), (3, 13), (3, 14), (3, 15), (3, 16), (3, 17), (3, 18), (3, 19), (3, 20), (3, 21), (3, 22)] rfl (by decide +kernel)))) (goodIn_sub zB_X12_blame_X120 zgw_X120))
set_option maxRecDepth 100000 in
theorem gX12_blame_X12_passes : GoodIn wsX12_blame (wsV RX12 443 RX12 yX12_passes wsX12_passes) := goodIn_app (goodIn_r _ [35, 36, 37, 7] rfl (by decide +kernel)) ggX12_blame_X12_passes
theorem zB_X12_canSearch_X120 : ∀ w ∈ wsX120, w ∈ wsX12_canSearch := fun _ h => List.mem_cons_of_mem _ (List.mem_append_right _ h)
set_option maxRecDepth 100000 in
theorem ggX12_canSearch_X12_laysFree : GoodIn wsX12_canSearch wsX12_laysFree := goodIn_hd (goodIn_r _ [9] rfl (by decide +kernel)) (goodIn_app (goodIn_r _ [4, 2, 10, 11, 12, 13, 14, 8, 15, 16] rfl (by decide +kernel)) (goodIn_sub zB_X12_canSearch_X120 zgw_X120))
set_option maxRecDepth 100000 in
theorem gX12_canSearch_X12_laysFree : GoodIn wsX12_canSearch (wsV RX12 358 RX12 yX12_laysFree wsX12_laysFree) := goodIn_app (goodIn_r _ [5, 6, 7, 8] rfl (by decide +kernel)) ggX12_canSearch_X12_laysFree
theorem zB_X12_triesChoice_X120 : ∀ w ∈ wsX120, w ∈ wsX12_triesChoice := fun _ h => List.mem_cons_of_mem _ (List.mem_append_right _ h)
set_option maxRecDepth 100000 in
theorem ggX12_triesChoice_X12_triesHand : GoodIn wsX12_triesChoice wsX12_triesHand := goodIn_hd (goodIn_r _ [8] rfl (by decide +kernel)) (goodIn_app (goodIn_r _ [9, 10, 11] rfl (by decide +kernel)) (goodIn_sub zB_X12_triesChoice_X120 zgw_X120))
set_option maxRecDepth 100000 in
theorem gX12_triesChoice_X12_triesHand : GoodIn wsX12_triesChoice (wsV RX12 440 RX12 yX12_triesHand wsX12_triesHand) := goodIn_app (goodIn_r _ [4, 5, 6, 7] rfl (by decide +kernel)) ggX12_triesChoice_X12_triesHand
set_option maxRecDepth 100000 in
theorem ggX12_triesChoice_X12_triesGroup : GoodIn wsX12_triesChoice wsX12_triesGroup := goodIn_hd (goodIn_r _ [15] rfl (by decide +kernel)) (goodIn_app (goodIn_r _ [9, 10, 16] rfl (by decide +kernel)) (goodIn_sub zB_X12_triesChoice_X120 zgw_X120))
set_option maxRecDepth 100000 in
theorem gX12_triesChoice_X12_triesGroup : GoodIn wsX12_triesChoice (wsV RX12 462 RX12 yX12_triesGroup wsX12_triesGroup) := goodIn_app (goodIn_r _ [12, 13, 14, 7] rfl (by decide +kernel)) ggX12_triesChoice_X12_triesGroup
noncomputable def zc_wsX12_cheapestChoice : List (List Cond) := [wsX12_cheapestChoice_r1, wsX12_cheapestChoice_r2, wsX12_cheapestChoice_r3, wsX12_cheapestChoice_r4, wsX12_cheapestChoice_r5, wsX120]
set_option maxRecDepth 20000 in
theorem zc_wsX12_cheapestChoice_in : ∀ l ∈ zc_wsX12_cheapestChoice, ∀ w ∈ l, w ∈ wsX12_cheapestChoice := by
  intro l hl
  unfold zc_wsX12_cheapestChoice at hl
  rcases List.mem_cons.mp hl with e | hl
  · rw [e]
    exact fun w h => List.mem_cons_of_mem _ (List.mem_append_left _ (List.mem_append_left _ h))
  rcases List.mem_cons.mp hl with e | hl
  · rw [e]
    exact fun w h => List.mem_cons_of_mem _ (List.mem_append_left _ (List.mem_append_right _ (List.mem_append_left _ h)))
  rcases List.mem_cons.mp hl with e | hl
  · rw [e]
    exact fun w h => List.mem_cons_of_mem _ (List.mem_append_left _ (List.mem_append_right _ (List.mem_append_right _ (List.mem_append_left _ h))))
  rcases List.mem_cons.mp hl with e | hl
  · rw [e]
    exact fun w h => List.mem_cons_of_mem _ (List.mem_append_left _ (List.mem_append_right _ (List.mem_append_right _ (List.mem_append_right _ (List.mem_append_left _ h)))))
  rcases List.mem_cons.mp hl with e | hl
  · rw [e]
    exact fun w h => List.mem_cons_of_mem _ (List.mem_append_left _ (List.mem_append_right _ (List.mem_append_right _ (List.mem_append_right _ (List.mem_append_right _ h)))))
  rcases List.mem_cons.mp hl with e | hl
  · rw [e]
    exact fun w h => List.mem_cons_of_mem _ (List.mem_append_right _ h)
  cases hl
theorem zB_X12_cheapestChoice_X120 : ∀ w ∈ wsX120, w ∈ wsX12_cheapestChoice := fun _ h => List.mem_cons_of_mem _ (List.mem_append_right _ h)
set_option maxRecDepth 100000 in
theorem ggX12_cheapestChoice_X12_allChoices : GoodIn wsX12_cheapestChoice wsX12_allChoices := goodIn_hd (goodIn_c zc_wsX12_cheapestChoice_in [(0, 4)] rfl (by decide +kernel)) (goodIn_app (goodIn_c zc_wsX12_cheapestChoice_in [(0, 5), (0, 6)] rfl (by decide +kernel)) (goodIn_sub zB_X12_cheapestChoice_X120 zgw_X120))
set_option maxRecDepth 100000 in
theorem gX12_cheapestChoice_X12_allChoices : GoodIn wsX12_cheapestChoice (wsV RX12 465 RX12 yX12_allChoices wsX12_allChoices) := goodIn_app (goodIn_r _ [1, 2, 3, 4] rfl (by decide +kernel)) ggX12_cheapestChoice_X12_allChoices
set_option maxRecDepth 100000 in
theorem ggX12_cheapestChoice_X12_triesChoice : GoodIn wsX12_cheapestChoice wsX12_triesChoice := goodIn_hd (goodIn_c zc_wsX12_cheapestChoice_in [(0, 10)] rfl (by decide +kernel)) (goodIn_app (goodIn_c zc_wsX12_cheapestChoice_in [(0, 5), (0, 11), (0, 6), (0, 12), (0, 13), (0, 14), (0, 3), (0, 15), (0, 16), (0, 17), (0, 18), (0, 19), (0, 20), (0, 21), (0, 22), (0, 23)] rfl (by decide +kernel)) (goodIn_sub zB_X12_cheapestChoice_X120 zgw_X120))
set_option maxRecDepth 100000 in
theorem gX12_cheapestChoice_X12_triesChoice : GoodIn wsX12_cheapestChoice (wsV RX12 468 RX12 yX12_triesChoice wsX12_triesChoice) := goodIn_app (goodIn_r _ [8, 9, 10, 4] rfl (by decide +kernel)) ggX12_cheapestChoice_X12_triesChoice
set_option maxRecDepth 100000 in
theorem ggX12_cheapestChoice_X12_costTried : GoodIn wsX12_cheapestChoice wsX12_costTried := goodIn_hd (goodIn_c zc_wsX12_cheapestChoice_in [(1, 3)] rfl (by decide +kernel)) (goodIn_app (goodIn_c zc_wsX12_cheapestChoice_in [(1, 4), (0, 16), (1, 5), (0, 17), (1, 6), (1, 7), (1, 8), (0, 3), (1, 9), (1, 10), (1, 11), (1, 12), (1, 13), (1, 14), (1, 15)] rfl (by decide +kernel)) (goodIn_sub zB_X12_cheapestChoice_X120 zgw_X120))
set_option maxRecDepth 100000 in
theorem gX12_cheapestChoice_X12_costTried : GoodIn wsX12_cheapestChoice (wsV RX12 449 RX12 yX12_costTried wsX12_costTried) := goodIn_app (goodIn_r _ [25, 26, 27, 4] rfl (by decide +kernel)) ggX12_cheapestChoice_X12_costTried
set_option maxRecDepth 100000 in
theorem ggX12_cheapestChoice_X12_passes : GoodIn wsX12_cheapestChoice wsX12_passes := goodIn_hd (goodIn_c zc_wsX12_cheapestChoice_in [(1, 19)] rfl (by decide +kernel)) (goodIn_app (goodIn_app (goodIn_c zc_wsX12_cheapestChoice_in [(1, 20), (1, 21), (0, 16), (1, 22), (1, 23), (0, 17), (2, 0), (2, 1), (2, 2), (2, 3), (0, 3), (2, 4), (2, 5), (2, 6), (2, 7), (2, 8), (2, 9), (2, 10), (2, 11), (2, 12), (2, 13), (2, 14), (2, 15), (1, 11)] rfl (by decide +kernel)) (goodIn_app (goodIn_c zc_wsX12_cheapestChoice_in [(1, 10), (2, 16), (2, 17), (2, 18), (2, 19), (2, 20), (2, 21), (2, 22), (2, 23), (3, 0), (3, 1), (3, 2), (3, 3), (3, 4), (3, 5), (3, 6), (3, 7), (3, 8), (3, 9), (3, 10), (3, 11), (3, 12), (3, 13), (3, 14)] rfl (by decide +kernel)) (goodIn_c zc_wsX12_cheapestChoice_in [(3, 15), (3, 16), (3, 17), (3, 18), (3, 19), (3, 20), (3, 21), (3, 22), (3, 23), (4, 0), (4, 1), (4, 2), (4, 3), (4, 4), (4, 5)] rfl (by decide +kernel)))) (goodIn_sub zB_X12_cheapestChoice_X120 zgw_X120))
set_option maxRecDepth 100000 in
theorem gX12_cheapestChoice_X12_passes : GoodIn wsX12_cheapestChoice (wsV RX12 443 RX12 yX12_passes wsX12_passes) := goodIn_app (goodIn_r _ [41, 42, 43, 4] rfl (by decide +kernel)) ggX12_cheapestChoice_X12_passes
noncomputable def zc_wsX12_cheapest : List (List Cond) := [wsX12_cheapest_r1, wsX12_cheapest_r2, wsX12_cheapest_r3, wsX12_cheapest_r4, wsX12_cheapest_r5, wsX12_cheapest_r6, wsX120]
set_option maxRecDepth 20000 in
theorem zc_wsX12_cheapest_in : ∀ l ∈ zc_wsX12_cheapest, ∀ w ∈ l, w ∈ wsX12_cheapest := by
  intro l hl
  unfold zc_wsX12_cheapest at hl
  rcases List.mem_cons.mp hl with e | hl
  · rw [e]
    exact fun w h => List.mem_cons_of_mem _ (List.mem_append_left _ (List.mem_append_left _ h))
  rcases List.mem_cons.mp hl with e | hl
  · rw [e]
    exact fun w h => List.mem_cons_of_mem _ (List.mem_append_left _ (List.mem_append_right _ (List.mem_append_left _ h)))
  rcases List.mem_cons.mp hl with e | hl
  · rw [e]
    exact fun w h => List.mem_cons_of_mem _ (List.mem_append_left _ (List.mem_append_right _ (List.mem_append_right _ (List.mem_append_left _ h))))
  rcases List.mem_cons.mp hl with e | hl
  · rw [e]
    exact fun w h => List.mem_cons_of_mem _ (List.mem_append_left _ (List.mem_append_right _ (List.mem_append_right _ (List.mem_append_right _ (List.mem_append_left _ h)))))
  rcases List.mem_cons.mp hl with e | hl
  · rw [e]
    exact fun w h => List.mem_cons_of_mem _ (List.mem_append_left _ (List.mem_append_right _ (List.mem_append_right _ (List.mem_append_right _ (List.mem_append_right _ (List.mem_append_left _ h))))))
  rcases List.mem_cons.mp hl with e | hl
  · rw [e]
    exact fun w h => List.mem_cons_of_mem _ (List.mem_append_left _ (List.mem_append_right _ (List.mem_append_right _ (List.mem_append_right _ (List.mem_append_right _ (List.mem_append_right _ h))))))
  rcases List.mem_cons.mp hl with e | hl
  · rw [e]
    exact fun w h => List.mem_cons_of_mem _ (List.mem_append_right _ h)
  cases hl
theorem zB_X12_cheapest_X120 : ∀ w ∈ wsX120, w ∈ wsX12_cheapest := fun _ h => List.mem_cons_of_mem _ (List.mem_append_right _ h)
set_option maxRecDepth 100000 in
theorem ggX12_cheapest_X12_canSearch : GoodIn wsX12_cheapest wsX12_canSearch := goodIn_hd (goodIn_c zc_wsX12_cheapest_in [(0, 5)] rfl (by decide +kernel)) (goodIn_app (goodIn_c zc_wsX12_cheapest_in [(0, 6), (0, 7), (0, 8), (0, 9), (0, 10), (0, 11), (0, 12), (0, 4), (0, 13), (0, 14), (0, 15), (0, 16), (0, 17), (0, 18), (0, 19), (0, 20)] rfl (by decide +kernel)) (goodIn_sub zB_X12_cheapest_X120 zgw_X120))
set_option maxRecDepth 100000 in
theorem gX12_cheapest_X12_canSearch : GoodIn wsX12_cheapest (wsV RX12 471 RX12 yX12_canSearch wsX12_canSearch) := goodIn_app (goodIn_r _ [2, 3, 4, 5] rfl (by decide +kernel)) ggX12_cheapest_X12_canSearch
set_option maxRecDepth 100000 in
theorem ggX12_cheapest_X12_isNumber : GoodIn wsX12_cheapest wsX12_isNumber := goodIn_hd (goodIn_c zc_wsX12_cheapest_in [(1, 0)] rfl (by decide +kernel)) (goodIn_app (goodIn_c zc_wsX12_cheapest_in [(0, 7), (1, 1), (1, 2), (0, 4), (1, 3)] rfl (by decide +kernel)) (goodIn_sub zB_X12_cheapest_X120 zgw_X120))
set_option maxRecDepth 100000 in
theorem gX12_cheapest_X12_isNumber : GoodIn wsX12_cheapest (wsV RX12 373 RX12 yX12_isNumber wsX12_isNumber) := goodIn_app (goodIn_r _ [22, 23, 24, 5] rfl (by decide +kernel)) ggX12_cheapest_X12_isNumber
set_option maxRecDepth 100000 in
theorem ggX12_cheapest_X12_cheapestChoice : GoodIn wsX12_cheapest wsX12_cheapestChoice := goodIn_hd (goodIn_c zc_wsX12_cheapest_in [(1, 7)] rfl (by decide +kernel)) (goodIn_app (goodIn_app (goodIn_c zc_wsX12_cheapest_in [(1, 8), (1, 9), (1, 10), (0, 4), (1, 11), (0, 9), (1, 12), (1, 13), (1, 14), (1, 15), (1, 16), (0, 15), (1, 17), (1, 18), (1, 19), (1, 20), (0, 7), (0, 0), (1, 21), (1, 22), (1, 23), (2, 0), (2, 1), (0, 14)] rfl (by decide +kernel)) (goodIn_app (goodIn_c zc_wsX12_cheapest_in [(2, 2), (2, 3), (2, 4), (2, 5), (2, 6), (2, 7), (2, 8), (2, 9), (2, 10), (2, 11), (2, 12), (2, 13), (2, 14), (2, 15), (2, 16), (2, 17), (2, 18), (2, 19), (2, 20), (2, 21), (2, 22), (2, 23), (3, 0), (3, 1)] rfl (by decide +kernel)) (goodIn_app (goodIn_c zc_wsX12_cheapest_in [(3, 2), (3, 3), (3, 4), (3, 5), (3, 6), (3, 7), (0, 6), (3, 8), (3, 9), (3, 10), (3, 11), (3, 12), (3, 13), (3, 14), (3, 15), (3, 16), (3, 17), (3, 18), (3, 19), (3, 20), (3, 21), (3, 22), (3, 23), (4, 0)] rfl (by decide +kernel)) (goodIn_app (goodIn_c zc_wsX12_cheapest_in [(4, 1), (4, 2), (4, 3), (4, 4), (4, 5), (4, 6), (4, 7), (4, 8), (4, 9), (4, 10), (4, 11), (4, 12), (4, 13), (4, 14), (4, 15), (4, 16), (4, 17), (4, 18), (4, 19), (4, 20), (4, 21), (4, 22), (4, 23), (5, 0)] rfl (by decide +kernel)) (goodIn_c zc_wsX12_cheapest_in [(5, 1), (5, 2), (5, 3), (5, 4), (5, 5), (5, 6)] rfl (by decide +kernel)))))) (goodIn_sub zB_X12_cheapest_X120 zgw_X120))
set_option maxRecDepth 100000 in
theorem gX12_cheapest_X12_cheapestChoice : GoodIn wsX12_cheapest (wsV RX12 474 RX12 yX12_cheapestChoice wsX12_cheapestChoice) := goodIn_app (goodIn_r _ [29, 30, 31, 5] rfl (by decide +kernel)) ggX12_cheapest_X12_cheapestChoice
set_option maxRecDepth 100000 in
theorem ggX12_cheapest_X12_triesChoice : GoodIn wsX12_cheapest wsX12_triesChoice := goodIn_hd (goodIn_c zc_wsX12_cheapest_in [(1, 16)] rfl (by decide +kernel)) (goodIn_app (goodIn_c zc_wsX12_cheapest_in [(0, 9), (0, 15), (1, 12), (1, 17), (1, 18), (1, 19), (0, 4), (1, 20), (0, 7), (0, 0), (1, 21), (1, 22), (1, 23), (2, 0), (2, 1), (0, 14)] rfl (by decide +kernel)) (goodIn_sub zB_X12_cheapest_X120 zgw_X120))
set_option maxRecDepth 100000 in
theorem gX12_cheapest_X12_triesChoice : GoodIn wsX12_cheapest (wsV RX12 468 RX12 yX12_triesChoice wsX12_triesChoice) := goodIn_app (goodIn_r _ [38, 39, 40, 5] rfl (by decide +kernel)) ggX12_cheapest_X12_triesChoice
set_option maxRecDepth 100000 in
theorem ggX12_cheapest_X12_costTried : GoodIn wsX12_cheapest wsX12_costTried := goodIn_hd (goodIn_c zc_wsX12_cheapest_in [(2, 5)] rfl (by decide +kernel)) (goodIn_app (goodIn_c zc_wsX12_cheapest_in [(2, 6), (0, 7), (2, 7), (0, 0), (2, 8), (2, 9), (2, 10), (0, 4), (2, 11), (2, 12), (2, 13), (2, 14), (2, 15), (2, 16), (2, 17)] rfl (by decide +kernel)) (goodIn_sub zB_X12_cheapest_X120 zgw_X120))
set_option maxRecDepth 100000 in
theorem gX12_cheapest_X12_costTried : GoodIn wsX12_cheapest (wsV RX12 449 RX12 yX12_costTried wsX12_costTried) := goodIn_app (goodIn_r _ [51, 52, 53, 5] rfl (by decide +kernel)) ggX12_cheapest_X12_costTried
noncomputable def zc_wsX12_passing : List (List Cond) := [wsX12_passing_r1, wsX12_passing_r2, wsX12_passing_r3, wsX12_passing_r4, wsX12_passing_r5, wsX120]
set_option maxRecDepth 20000 in
theorem zc_wsX12_passing_in : ∀ l ∈ zc_wsX12_passing, ∀ w ∈ l, w ∈ wsX12_passing := by
  intro l hl
  unfold zc_wsX12_passing at hl
  rcases List.mem_cons.mp hl with e | hl
  · rw [e]
    exact fun w h => List.mem_cons_of_mem _ (List.mem_append_left _ (List.mem_append_left _ h))
  rcases List.mem_cons.mp hl with e | hl
  · rw [e]
    exact fun w h => List.mem_cons_of_mem _ (List.mem_append_left _ (List.mem_append_right _ (List.mem_append_left _ h)))
  rcases List.mem_cons.mp hl with e | hl
  · rw [e]
    exact fun w h => List.mem_cons_of_mem _ (List.mem_append_left _ (List.mem_append_right _ (List.mem_append_right _ (List.mem_append_left _ h))))
  rcases List.mem_cons.mp hl with e | hl
  · rw [e]
    exact fun w h => List.mem_cons_of_mem _ (List.mem_append_left _ (List.mem_append_right _ (List.mem_append_right _ (List.mem_append_right _ (List.mem_append_left _ h)))))
  rcases List.mem_cons.mp hl with e | hl
  · rw [e]
    exact fun w h => List.mem_cons_of_mem _ (List.mem_append_left _ (List.mem_append_right _ (List.mem_append_right _ (List.mem_append_right _ (List.mem_append_right _ h)))))
  rcases List.mem_cons.mp hl with e | hl
  · rw [e]
    exact fun w h => List.mem_cons_of_mem _ (List.mem_append_right _ h)
  cases hl
theorem zB_X12_passing_X120 : ∀ w ∈ wsX120, w ∈ wsX12_passing := fun _ h => List.mem_cons_of_mem _ (List.mem_append_right _ h)
set_option maxRecDepth 100000 in
theorem ggX12_passing_X12_laysFree : GoodIn wsX12_passing wsX12_laysFree := goodIn_hd (goodIn_c zc_wsX12_passing_in [(0, 8)] rfl (by decide +kernel)) (goodIn_app (goodIn_c zc_wsX12_passing_in [(0, 1), (0, 0), (0, 9), (0, 10), (0, 11), (0, 12), (0, 13), (0, 7), (0, 14), (0, 15)] rfl (by decide +kernel)) (goodIn_sub zB_X12_passing_X120 zgw_X120))
set_option maxRecDepth 100000 in
theorem gX12_passing_X12_laysFree : GoodIn wsX12_passing (wsV RX12 358 RX12 yX12_laysFree wsX12_laysFree) := goodIn_app (goodIn_r _ [5, 6, 7, 8] rfl (by decide +kernel)) ggX12_passing_X12_laysFree
set_option maxRecDepth 100000 in
theorem ggX12_passing_X12_allChoices : GoodIn wsX12_passing wsX12_allChoices := goodIn_hd (goodIn_c zc_wsX12_passing_in [(0, 19)] rfl (by decide +kernel)) (goodIn_app (goodIn_c zc_wsX12_passing_in [(0, 1), (0, 20)] rfl (by decide +kernel)) (goodIn_sub zB_X12_passing_X120 zgw_X120))
set_option maxRecDepth 100000 in
theorem gX12_passing_X12_allChoices : GoodIn wsX12_passing (wsV RX12 465 RX12 yX12_allChoices wsX12_allChoices) := goodIn_app (goodIn_r _ [17, 18, 19, 8] rfl (by decide +kernel)) ggX12_passing_X12_allChoices
set_option maxRecDepth 100000 in
theorem ggX12_passing_X12_triesChoice : GoodIn wsX12_passing wsX12_triesChoice := goodIn_hd (goodIn_c zc_wsX12_passing_in [(1, 0)] rfl (by decide +kernel)) (goodIn_app (goodIn_c zc_wsX12_passing_in [(0, 1), (0, 10), (0, 20), (1, 1), (1, 2), (1, 3), (0, 7), (1, 4), (0, 0), (1, 5), (1, 6), (1, 7), (1, 8), (1, 9), (1, 10), (0, 9)] rfl (by decide +kernel)) (goodIn_sub zB_X12_passing_X120 zgw_X120))
set_option maxRecDepth 100000 in
theorem gX12_passing_X12_triesChoice : GoodIn wsX12_passing (wsV RX12 468 RX12 yX12_triesChoice wsX12_triesChoice) := goodIn_app (goodIn_r _ [22, 23, 24, 8] rfl (by decide +kernel)) ggX12_passing_X12_triesChoice
set_option maxRecDepth 100000 in
theorem ggX12_passing_X12_passes : GoodIn wsX12_passing wsX12_passes := goodIn_hd (goodIn_c zc_wsX12_passing_in [(1, 14)] rfl (by decide +kernel)) (goodIn_app (goodIn_app (goodIn_c zc_wsX12_passing_in [(1, 15), (1, 16), (0, 0), (1, 17), (1, 18), (1, 5), (1, 19), (1, 20), (1, 21), (1, 22), (0, 7), (1, 23), (2, 0), (0, 3), (2, 1), (2, 2), (2, 3), (2, 4), (2, 5), (2, 6), (2, 7), (2, 8), (2, 9), (2, 10)] rfl (by decide +kernel)) (goodIn_app (goodIn_c zc_wsX12_passing_in [(2, 11), (2, 12), (2, 13), (2, 14), (2, 15), (2, 16), (2, 17), (2, 18), (2, 19), (2, 20), (2, 21), (2, 22), (2, 23), (3, 0), (3, 1), (3, 2), (3, 3), (3, 4), (3, 5), (3, 6), (3, 7), (3, 8), (3, 9), (3, 10)] rfl (by decide +kernel)) (goodIn_c zc_wsX12_passing_in [(3, 11), (3, 12), (3, 13), (3, 14), (3, 15), (3, 16), (3, 17), (3, 18), (3, 19), (3, 20), (3, 21), (3, 22), (3, 23), (4, 0), (4, 1)] rfl (by decide +kernel)))) (goodIn_sub zB_X12_passing_X120 zgw_X120))
set_option maxRecDepth 100000 in
theorem gX12_passing_X12_passes : GoodIn wsX12_passing (wsV RX12 443 RX12 yX12_passes wsX12_passes) := goodIn_app (goodIn_r _ [36, 37, 38, 8] rfl (by decide +kernel)) ggX12_passing_X12_passes
theorem zB_X12_keepsTried_X120 : ∀ w ∈ wsX120, w ∈ wsX12_keepsTried := fun _ h => List.mem_cons_of_mem _ (List.mem_append_right _ h)
set_option maxRecDepth 100000 in
theorem ggX12_keepsTried_X12_costTried : GoodIn wsX12_keepsTried wsX12_costTried := goodIn_hd (goodIn_r _ [9] rfl (by decide +kernel)) (goodIn_app (goodIn_r _ [10, 1, 11, 3, 12, 13, 14, 8, 15, 16, 17, 18, 19, 20, 21] rfl (by decide +kernel)) (goodIn_sub zB_X12_keepsTried_X120 zgw_X120))
set_option maxRecDepth 100000 in
theorem gX12_keepsTried_X12_costTried : GoodIn wsX12_keepsTried (wsV RX12 449 RX12 yX12_costTried wsX12_costTried) := goodIn_app (goodIn_r _ [5, 6, 7, 8] rfl (by decide +kernel)) ggX12_keepsTried_X12_costTried
noncomputable def zc_wsX12_isBetter : List (List Cond) := [wsX12_isBetter_r1, wsX12_isBetter_r2, wsX12_isBetter_r3, wsX12_isBetter_r4, wsX120]
set_option maxRecDepth 20000 in
theorem zc_wsX12_isBetter_in : ∀ l ∈ zc_wsX12_isBetter, ∀ w ∈ l, w ∈ wsX12_isBetter := by
  intro l hl
  unfold zc_wsX12_isBetter at hl
  rcases List.mem_cons.mp hl with e | hl
  · rw [e]
    exact fun w h => List.mem_cons_of_mem _ (List.mem_append_left _ (List.mem_append_left _ h))
  rcases List.mem_cons.mp hl with e | hl
  · rw [e]
    exact fun w h => List.mem_cons_of_mem _ (List.mem_append_left _ (List.mem_append_right _ (List.mem_append_left _ h)))
  rcases List.mem_cons.mp hl with e | hl
  · rw [e]
    exact fun w h => List.mem_cons_of_mem _ (List.mem_append_left _ (List.mem_append_right _ (List.mem_append_right _ (List.mem_append_left _ h))))
  rcases List.mem_cons.mp hl with e | hl
  · rw [e]
    exact fun w h => List.mem_cons_of_mem _ (List.mem_append_left _ (List.mem_append_right _ (List.mem_append_right _ (List.mem_append_right _ h))))
  rcases List.mem_cons.mp hl with e | hl
  · rw [e]
    exact fun w h => List.mem_cons_of_mem _ (List.mem_append_right _ h)
  cases hl
theorem zB_X12_isBetter_X120 : ∀ w ∈ wsX120, w ∈ wsX12_isBetter := fun _ h => List.mem_cons_of_mem _ (List.mem_append_right _ h)
set_option maxRecDepth 100000 in
theorem ggX12_isBetter_X12_triesGroup : GoodIn wsX12_isBetter wsX12_triesGroup := goodIn_hd (goodIn_c zc_wsX12_isBetter_in [(0, 12)] rfl (by decide +kernel)) (goodIn_app (goodIn_c zc_wsX12_isBetter_in [(0, 0), (0, 1), (0, 13)] rfl (by decide +kernel)) (goodIn_sub zB_X12_isBetter_X120 zgw_X120))
set_option maxRecDepth 100000 in
theorem gX12_isBetter_X12_triesGroup : GoodIn wsX12_isBetter (wsV RX12 462 RX12 yX12_triesGroup wsX12_triesGroup) := goodIn_app (goodIn_r _ [9, 10, 11, 12] rfl (by decide +kernel)) ggX12_isBetter_X12_triesGroup
set_option maxRecDepth 100000 in
theorem ggX12_isBetter_X12_passes : GoodIn wsX12_isBetter wsX12_passes := goodIn_hd (goodIn_c zc_wsX12_isBetter_in [(0, 17)] rfl (by decide +kernel)) (goodIn_app (goodIn_app (goodIn_c zc_wsX12_isBetter_in [(0, 18), (0, 19), (0, 0), (0, 20), (0, 21), (0, 1), (0, 22), (0, 23), (1, 0), (1, 1), (0, 11), (1, 2), (1, 3), (1, 4), (1, 5), (1, 6), (1, 7), (1, 8), (1, 9), (1, 10), (1, 11), (1, 12), (1, 13), (1, 14)] rfl (by decide +kernel)) (goodIn_app (goodIn_c zc_wsX12_isBetter_in [(1, 15), (1, 16), (1, 17), (1, 18), (1, 19), (1, 20), (1, 21), (1, 22), (1, 23), (2, 0), (2, 1), (2, 2), (2, 3), (2, 4), (2, 5), (2, 6), (2, 7), (2, 8), (2, 9), (2, 10), (2, 11), (2, 12), (2, 13), (2, 14)] rfl (by decide +kernel)) (goodIn_c zc_wsX12_isBetter_in [(2, 15), (2, 16), (2, 17), (2, 18), (2, 19), (2, 20), (2, 21), (2, 22), (2, 23), (3, 0), (3, 1), (3, 2), (3, 3), (3, 4), (3, 5)] rfl (by decide +kernel)))) (goodIn_sub zB_X12_isBetter_X120 zgw_X120))
set_option maxRecDepth 100000 in
theorem gX12_isBetter_X12_passes : GoodIn wsX12_isBetter (wsV RX12 443 RX12 yX12_passes wsX12_passes) := goodIn_app (goodIn_r _ [15, 16, 17, 12] rfl (by decide +kernel)) ggX12_isBetter_X12_passes
set_option maxRecDepth 100000 in
theorem ggX12_isBetter_X12_costTried : GoodIn wsX12_isBetter wsX12_costTried := goodIn_hd (goodIn_c zc_wsX12_isBetter_in [(3, 9)] rfl (by decide +kernel)) (goodIn_app (goodIn_c zc_wsX12_isBetter_in [(3, 10), (0, 0), (3, 11), (0, 1), (3, 12), (3, 13), (3, 14), (0, 11), (3, 15), (1, 15), (1, 14), (3, 16), (3, 17), (3, 18), (3, 19)] rfl (by decide +kernel)) (goodIn_sub zB_X12_isBetter_X120 zgw_X120))
set_option maxRecDepth 100000 in
theorem gX12_isBetter_X12_costTried : GoodIn wsX12_isBetter (wsV RX12 449 RX12 yX12_costTried wsX12_costTried) := goodIn_app (goodIn_r _ [79, 80, 81, 12] rfl (by decide +kernel)) ggX12_isBetter_X12_costTried
set_option maxRecDepth 100000 in
theorem ggX12_isBetter_X12_keepsTried : GoodIn wsX12_isBetter wsX12_keepsTried := goodIn_hd (goodIn_c zc_wsX12_isBetter_in [(3, 23)] rfl (by decide +kernel)) (goodIn_app (goodIn_c zc_wsX12_isBetter_in [(0, 0), (0, 2), (0, 1), (0, 6), (3, 6), (3, 7), (3, 8), (0, 11), (3, 9), (3, 10), (3, 11), (3, 12), (3, 13), (3, 14), (3, 15), (1, 15), (1, 14), (3, 16), (3, 17), (3, 18), (3, 19)] rfl (by decide +kernel)) (goodIn_sub zB_X12_isBetter_X120 zgw_X120))
set_option maxRecDepth 100000 in
theorem gX12_isBetter_X12_keepsTried : GoodIn wsX12_isBetter (wsV RX12 477 RX12 yX12_keepsTried wsX12_keepsTried) := goodIn_app (goodIn_r _ [93, 94, 95, 12] rfl (by decide +kernel)) ggX12_isBetter_X12_keepsTried
noncomputable def zc_wsX12_halvesBy : List (List Cond) := [wsX12_halvesBy_r1, wsX12_halvesBy_r2, wsX12_halvesBy_r3, wsX12_halvesBy_r4, wsX12_halvesBy_r5, wsX120]
set_option maxRecDepth 20000 in
theorem zc_wsX12_halvesBy_in : ∀ l ∈ zc_wsX12_halvesBy, ∀ w ∈ l, w ∈ wsX12_halvesBy := by
  intro l hl
  unfold zc_wsX12_halvesBy at hl
  rcases List.mem_cons.mp hl with e | hl
  · rw [e]
    exact fun w h => List.mem_cons_of_mem _ (List.mem_append_left _ (List.mem_append_left _ h))
  rcases List.mem_cons.mp hl with e | hl
  · rw [e]
    exact fun w h => List.mem_cons_of_mem _ (List.mem_append_left _ (List.mem_append_right _ (List.mem_append_left _ h)))
  rcases List.mem_cons.mp hl with e | hl
  · rw [e]
    exact fun w h => List.mem_cons_of_mem _ (List.mem_append_left _ (List.mem_append_right _ (List.mem_append_right _ (List.mem_append_left _ h))))
  rcases List.mem_cons.mp hl with e | hl
  · rw [e]
    exact fun w h => List.mem_cons_of_mem _ (List.mem_append_left _ (List.mem_append_right _ (List.mem_append_right _ (List.mem_append_right _ (List.mem_append_left _ h)))))
  rcases List.mem_cons.mp hl with e | hl
  · rw [e]
    exact fun w h => List.mem_cons_of_mem _ (List.mem_append_left _ (List.mem_append_right _ (List.mem_append_right _ (List.mem_append_right _ (List.mem_append_right _ h)))))
  rcases List.mem_cons.mp hl with e | hl
  · rw [e]
    exact fun w h => List.mem_cons_of_mem _ (List.mem_append_right _ h)
  cases hl
theorem zB_X12_halvesBy_X120 : ∀ w ∈ wsX120, w ∈ wsX12_halvesBy := fun _ h => List.mem_cons_of_mem _ (List.mem_append_right _ h)
set_option maxRecDepth 100000 in
theorem ggX12_halvesBy_X12_isBetter : GoodIn wsX12_halvesBy wsX12_isBetter := goodIn_hd (goodIn_c zc_wsX12_halvesBy_in [(0, 9)] rfl (by decide +kernel)) (goodIn_app (goodIn_app (goodIn_c zc_wsX12_halvesBy_in [(0, 10), (0, 11), (0, 12), (0, 13), (0, 2), (0, 14), (0, 15), (0, 1), (0, 16), (0, 17), (0, 18), (0, 8), (0, 19), (0, 20), (0, 21), (0, 22), (0, 23), (1, 0), (1, 1), (1, 2), (1, 3), (1, 4), (1, 5), (1, 6)] rfl (by decide +kernel)) (goodIn_app (goodIn_c zc_wsX12_halvesBy_in [(1, 7), (1, 8), (1, 9), (1, 10), (1, 11), (1, 12), (1, 13), (1, 14), (1, 15), (1, 16), (1, 17), (1, 18), (1, 19), (1, 20), (1, 21), (1, 22), (1, 23), (2, 0), (2, 1), (2, 2), (2, 3), (2, 4), (2, 5), (2, 6)] rfl (by decide +kernel)) (goodIn_app (goodIn_c zc_wsX12_halvesBy_in [(2, 7), (2, 8), (2, 9), (2, 10), (2, 11), (2, 12), (2, 13), (2, 14), (2, 15), (2, 16), (2, 17), (2, 18), (2, 19), (2, 20), (2, 21), (2, 22), (2, 23), (3, 0), (3, 1), (3, 2), (3, 3), (3, 4), (3, 5), (3, 6)] rfl (by decide +kernel)) (goodIn_c zc_wsX12_halvesBy_in [(3, 7), (3, 8), (3, 9), (3, 10), (3, 11), (3, 12), (3, 13), (3, 14), (3, 15), (3, 16), (3, 17), (3, 18), (3, 19), (3, 20), (3, 21), (3, 22), (3, 23), (4, 0), (4, 1), (4, 2), (4, 3), (4, 4), (4, 5), (4, 6)] rfl (by decide +kernel))))) (goodIn_sub zB_X12_halvesBy_X120 zgw_X120))
set_option maxRecDepth 100000 in
theorem gX12_halvesBy_X12_isBetter : GoodIn wsX12_halvesBy (wsV RX12 480 RX12 yX12_isBetter wsX12_isBetter) := goodIn_app (goodIn_r _ [6, 7, 8, 9] rfl (by decide +kernel)) ggX12_halvesBy_X12_isBetter
noncomputable def zc_wsX12_halve : List (List Cond) := [wsX12_halve_r1, wsX12_halve_r2, wsX12_halve_r3, wsX12_halve_r4, wsX12_halve_r5, wsX12_halve_r6, wsX120]
set_option maxRecDepth 20000 in
theorem zc_wsX12_halve_in : ∀ l ∈ zc_wsX12_halve, ∀ w ∈ l, w ∈ wsX12_halve := by
  intro l hl
  unfold zc_wsX12_halve at hl
  rcases List.mem_cons.mp hl with e | hl
  · rw [e]
    exact fun w h => List.mem_cons_of_mem _ (List.mem_append_left _ (List.mem_append_left _ h))
  rcases List.mem_cons.mp hl with e | hl
  · rw [e]
    exact fun w h => List.mem_cons_of_mem _ (List.mem_append_left _ (List.mem_append_right _ (List.mem_append_left _ h)))
  rcases List.mem_cons.mp hl with e | hl
  · rw [e]
    exact fun w h => List.mem_cons_of_mem _ (List.mem_append_left _ (List.mem_append_right _ (List.mem_append_right _ (List.mem_append_left _ h))))
  rcases List.mem_cons.mp hl with e | hl
  · rw [e]
    exact fun w h => List.mem_cons_of_mem _ (List.mem_append_left _ (List.mem_append_right _ (List.mem_append_right _ (List.mem_append_right _ (List.mem_append_left _ h)))))
  rcases List.mem_cons.mp hl with e | hl
  · rw [e]
    exact fun w h => List.mem_cons_of_mem _ (List.mem_append_left _ (List.mem_append_right _ (List.mem_append_right _ (List.mem_append_right _ (List.mem_append_right _ (List.mem_append_left _ h))))))
  rcases List.mem_cons.mp hl with e | hl
  · rw [e]
    exact fun w h => List.mem_cons_of_mem _ (List.mem_append_left _ (List.mem_append_right _ (List.mem_append_right _ (List.mem_append_right _ (List.mem_append_right _ (List.mem_append_right _ h))))))
  rcases List.mem_cons.mp hl with e | hl
  · rw [e]
    exact fun w h => List.mem_cons_of_mem _ (List.mem_append_right _ h)
  cases hl
theorem zB_X12_halve_X120 : ∀ w ∈ wsX120, w ∈ wsX12_halve := fun _ h => List.mem_cons_of_mem _ (List.mem_append_right _ h)
set_option maxRecDepth 100000 in
theorem ggX12_halve_X12_laysFree : GoodIn wsX12_halve wsX12_laysFree := goodIn_hd (goodIn_c zc_wsX12_halve_in [(0, 10)] rfl (by decide +kernel)) (goodIn_app (goodIn_c zc_wsX12_halve_in [(0, 1), (0, 11), (0, 12), (0, 2), (0, 13), (0, 14), (0, 15), (0, 9), (0, 16), (0, 17)] rfl (by decide +kernel)) (goodIn_sub zB_X12_halve_X120 zgw_X120))
set_option maxRecDepth 100000 in
theorem gX12_halve_X12_laysFree : GoodIn wsX12_halve (wsV RX12 358 RX12 yX12_laysFree wsX12_laysFree) := goodIn_app (goodIn_r _ [7, 8, 9, 10] rfl (by decide +kernel)) ggX12_halve_X12_laysFree
set_option maxRecDepth 100000 in
theorem ggX12_halve_X12_isThere : GoodIn wsX12_halve wsX12_isThere := goodIn_hd (goodIn_c zc_wsX12_halve_in [(0, 21)] rfl (by decide +kernel)) (goodIn_app (goodIn_c zc_wsX12_halve_in [(0, 22), (0, 11)] rfl (by decide +kernel)) (goodIn_sub zB_X12_halve_X120 zgw_X120))
set_option maxRecDepth 100000 in
theorem gX12_halve_X12_isThere : GoodIn wsX12_halve (wsV RX12 446 RX12 yX12_isThere wsX12_isThere) := goodIn_app (goodIn_r _ [19, 20, 21, 10] rfl (by decide +kernel)) ggX12_halve_X12_isThere
set_option maxRecDepth 100000 in
theorem ggX12_halve_X12_finest : GoodIn wsX12_halve wsX12_finest := goodIn_hd (goodIn_c zc_wsX12_halve_in [(1, 2)] rfl (by decide +kernel)) (goodIn_app (goodIn_c zc_wsX12_halve_in [(0, 5), (1, 3)] rfl (by decide +kernel)) (goodIn_sub zB_X12_halve_X120 zgw_X120))
set_option maxRecDepth 100000 in
theorem gX12_halve_X12_finest : GoodIn wsX12_halve (wsV RX12 459 RX12 yX12_finest wsX12_finest) := goodIn_app (goodIn_r _ [24, 25, 26, 10] rfl (by decide +kernel)) ggX12_halve_X12_finest
set_option maxRecDepth 100000 in
theorem ggX12_halve_X12_triesHand : GoodIn wsX12_halve wsX12_triesHand := goodIn_hd (goodIn_c zc_wsX12_halve_in [(1, 7)] rfl (by decide +kernel)) (goodIn_app (goodIn_c zc_wsX12_halve_in [(0, 11), (1, 8), (1, 9)] rfl (by decide +kernel)) (goodIn_sub zB_X12_halve_X120 zgw_X120))
set_option maxRecDepth 100000 in
theorem gX12_halve_X12_triesHand : GoodIn wsX12_halve (wsV RX12 440 RX12 yX12_triesHand wsX12_triesHand) := goodIn_app (goodIn_r _ [29, 30, 31, 10] rfl (by decide +kernel)) ggX12_halve_X12_triesHand
set_option maxRecDepth 100000 in
theorem ggX12_halve_X12_triesGroup : GoodIn wsX12_halve wsX12_triesGroup := goodIn_hd (goodIn_c zc_wsX12_halve_in [(1, 13)] rfl (by decide +kernel)) (goodIn_app (goodIn_c zc_wsX12_halve_in [(0, 11), (1, 8), (0, 12)] rfl (by decide +kernel)) (goodIn_sub zB_X12_halve_X120 zgw_X120))
set_option maxRecDepth 100000 in
theorem gX12_halve_X12_triesGroup : GoodIn wsX12_halve (wsV RX12 462 RX12 yX12_triesGroup wsX12_triesGroup) := goodIn_app (goodIn_r _ [35, 36, 37, 10] rfl (by decide +kernel)) ggX12_halve_X12_triesGroup
set_option maxRecDepth 100000 in
theorem ggX12_halve_X12_passes : GoodIn wsX12_halve wsX12_passes := goodIn_hd (goodIn_c zc_wsX12_halve_in [(1, 17)] rfl (by decide +kernel)) (goodIn_app (goodIn_app (goodIn_c zc_wsX12_halve_in [(1, 18), (1, 19), (0, 11), (1, 20), (1, 21), (1, 8), (1, 22), (1, 23), (2, 0), (2, 1), (0, 9), (2, 2), (2, 3), (0, 0), (2, 4), (2, 5), (2, 6), (2, 7), (2, 8), (2, 9), (2, 10), (2, 11), (2, 12), (2, 13)] rfl (by decide +kernel)) (goodIn_app (goodIn_c zc_wsX12_halve_in [(2, 14), (2, 15), (2, 16), (2, 17), (2, 18), (2, 19), (2, 20), (2, 21), (2, 22), (2, 23), (3, 0), (3, 1), (3, 2), (3, 3), (3, 4), (3, 5), (3, 6), (3, 7), (3, 8), (3, 9), (3, 10), (3, 11), (3, 12), (3, 13)] rfl (by decide +kernel)) (goodIn_c zc_wsX12_halve_in [(3, 14), (3, 15), (3, 16), (1, 3), (3, 17), (3, 18), (3, 19), (3, 20), (3, 21), (3, 22), (3, 23), (4, 0), (4, 1), (4, 2), (4, 3)] rfl (by decide +kernel)))) (goodIn_sub zB_X12_halve_X120 zgw_X120))
set_option maxRecDepth 100000 in
theorem gX12_halve_X12_passes : GoodIn wsX12_halve (wsV RX12 443 RX12 yX12_passes wsX12_passes) := goodIn_app (goodIn_r _ [39, 40, 41, 10] rfl (by decide +kernel)) ggX12_halve_X12_passes
set_option maxRecDepth 100000 in
theorem ggX12_halve_X12_keepsTried : GoodIn wsX12_halve wsX12_keepsTried := goodIn_hd (goodIn_c zc_wsX12_halve_in [(4, 7)] rfl (by decide +kernel)) (goodIn_app (goodIn_c zc_wsX12_halve_in [(0, 11), (4, 8), (1, 8), (4, 9), (4, 10), (4, 11), (4, 12), (0, 9), (4, 13), (4, 14), (4, 15), (4, 16), (4, 17), (4, 18), (4, 19), (2, 14), (2, 13), (4, 20), (4, 21), (4, 22), (4, 23)] rfl (by decide +kernel)) (goodIn_sub zB_X12_halve_X120 zgw_X120))
set_option maxRecDepth 100000 in
theorem gX12_halve_X12_keepsTried : GoodIn wsX12_halve (wsV RX12 477 RX12 yX12_keepsTried wsX12_keepsTried) := goodIn_app (goodIn_r _ [101, 102, 103, 10] rfl (by decide +kernel)) ggX12_halve_X12_keepsTried
set_option maxRecDepth 100000 in
theorem ggX12_halve_X12_halvesBy : GoodIn wsX12_halve wsX12_halvesBy := goodIn_hd (goodIn_c zc_wsX12_halve_in [(5, 3)] rfl (by decide +kernel)) (goodIn_app (goodIn_app (goodIn_c zc_wsX12_halve_in [(0, 1), (0, 3), (5, 4), (5, 5), (5, 6), (5, 7), (5, 8), (5, 9), (0, 9), (5, 10), (0, 11), (1, 8), (4, 8), (0, 2), (0, 4), (4, 9), (1, 10), (1, 11), (1, 12), (1, 13), (0, 12), (1, 14), (1, 15), (1, 16)] rfl (by decide +kernel)) (goodIn_app (goodIn_c zc_wsX12_halve_in [(1, 17), (1, 18), (1, 19), (1, 20), (1, 21), (1, 22), (1, 23), (2, 0), (2, 1), (2, 2), (2, 3), (0, 0), (2, 4), (2, 5), (2, 6), (2, 7), (2, 8), (2, 9), (2, 10), (2, 11), (2, 12), (2, 13), (2, 14), (2, 15)] rfl (by decide +kernel)) (goodIn_app (goodIn_c zc_wsX12_halve_in [(2, 16), (2, 17), (2, 18), (2, 19), (2, 20), (2, 21), (2, 22), (2, 23), (3, 0), (3, 1), (3, 2), (3, 3), (3, 4), (3, 5), (3, 6), (3, 7), (3, 8), (3, 9), (3, 10), (3, 11), (3, 12), (3, 13), (3, 14), (3, 15)] rfl (by decide +kernel)) (goodIn_app (goodIn_c zc_wsX12_halve_in [(3, 16), (1, 3), (3, 17), (3, 18), (3, 19), (3, 20), (3, 21), (3, 22), (3, 23), (4, 0), (4, 1), (4, 2), (4, 3), (4, 10), (4, 11), (4, 12), (4, 13), (4, 14), (4, 15), (4, 16), (4, 17), (4, 18), (4, 19), (4, 20)] rfl (by decide +kernel)) (goodIn_c zc_wsX12_halve_in [(4, 21), (4, 22), (4, 23), (4, 4), (4, 5), (4, 6), (4, 7)] rfl (by decide +kernel)))))) (goodIn_sub zB_X12_halve_X120 zgw_X120))
set_option maxRecDepth 100000 in
theorem gX12_halve_X12_halvesBy : GoodIn wsX12_halve (wsV RX12 484 RX12 yX12_halvesBy wsX12_halvesBy) := goodIn_app (goodIn_r _ [121, 122, 123, 10] rfl (by decide +kernel)) ggX12_halve_X12_halvesBy
noncomputable def zc_wsX12_halves : List (List Cond) := [wsX12_halves_r1, wsX12_halves_r2, wsX12_halves_r3, wsX12_halves_r4, wsX12_halves_r5, wsX12_halves_r6, wsX120]
set_option maxRecDepth 20000 in
theorem zc_wsX12_halves_in : ∀ l ∈ zc_wsX12_halves, ∀ w ∈ l, w ∈ wsX12_halves := by
  intro l hl
  unfold zc_wsX12_halves at hl
  rcases List.mem_cons.mp hl with e | hl
  · rw [e]
    exact fun w h => List.mem_cons_of_mem _ (List.mem_append_left _ (List.mem_append_left _ h))
  rcases List.mem_cons.mp hl with e | hl
  · rw [e]
    exact fun w h => List.mem_cons_of_mem _ (List.mem_append_left _ (List.mem_append_right _ (List.mem_append_left _ h)))
  rcases List.mem_cons.mp hl with e | hl
  · rw [e]
    exact fun w h => List.mem_cons_of_mem _ (List.mem_append_left _ (List.mem_append_right _ (List.mem_append_right _ (List.mem_append_left _ h))))
  rcases List.mem_cons.mp hl with e | hl
  · rw [e]
    exact fun w h => List.mem_cons_of_mem _ (List.mem_append_left _ (List.mem_append_right _ (List.mem_append_right _ (List.mem_append_right _ (List.mem_append_left _ h)))))
  rcases List.mem_cons.mp hl with e | hl
  · rw [e]
    exact fun w h => List.mem_cons_of_mem _ (List.mem_append_left _ (List.mem_append_right _ (List.mem_append_right _ (List.mem_append_right _ (List.mem_append_right _ (List.mem_append_left _ h))))))
  rcases List.mem_cons.mp hl with e | hl
  · rw [e]
    exact fun w h => List.mem_cons_of_mem _ (List.mem_append_left _ (List.mem_append_right _ (List.mem_append_right _ (List.mem_append_right _ (List.mem_append_right _ (List.mem_append_right _ h))))))
  rcases List.mem_cons.mp hl with e | hl
  · rw [e]
    exact fun w h => List.mem_cons_of_mem _ (List.mem_append_right _ h)
  cases hl
theorem zB_X12_halves_X120 : ∀ w ∈ wsX120, w ∈ wsX12_halves := fun _ h => List.mem_cons_of_mem _ (List.mem_append_right _ h)
set_option maxRecDepth 100000 in
theorem ggX12_halves_X12_isNumber : GoodIn wsX12_halves wsX12_isNumber := goodIn_hd (goodIn_c zc_wsX12_halves_in [(0, 7)] rfl (by decide +kernel)) (goodIn_app (goodIn_c zc_wsX12_halves_in [(0, 8), (0, 9), (0, 10), (0, 6), (0, 11)] rfl (by decide +kernel)) (goodIn_sub zB_X12_halves_X120 zgw_X120))
set_option maxRecDepth 100000 in
theorem gX12_halves_X12_isNumber : GoodIn wsX12_halves (wsV RX12 373 RX12 yX12_isNumber wsX12_isNumber) := goodIn_app (goodIn_r _ [4, 5, 6, 7] rfl (by decide +kernel)) ggX12_halves_X12_isNumber
set_option maxRecDepth 100000 in
theorem ggX12_halves_X12_halve : GoodIn wsX12_halves wsX12_halve := goodIn_hd (goodIn_c zc_wsX12_halves_in [(0, 15)] rfl (by decide +kernel)) (goodIn_app (goodIn_app (goodIn_c zc_wsX12_halves_in [(0, 16), (0, 17), (0, 18), (0, 19), (0, 1), (0, 20), (0, 21), (0, 22), (0, 23), (0, 6), (1, 0), (0, 8), (1, 1), (1, 2), (1, 3), (1, 4), (1, 5), (1, 6), (1, 7), (1, 8), (1, 9), (1, 10), (1, 11), (1, 12)] rfl (by decide +kernel)) (goodIn_app (goodIn_c zc_wsX12_halves_in [(1, 13), (1, 14), (1, 15), (1, 16), (1, 17), (1, 18), (1, 19), (1, 20), (1, 21), (1, 22), (1, 23), (2, 0), (2, 1), (2, 2), (2, 3), (2, 4), (2, 5), (2, 6), (2, 7), (2, 8), (2, 9), (2, 10), (2, 11), (2, 12)] rfl (by decide +kernel)) (goodIn_app (goodIn_c zc_wsX12_halves_in [(2, 13), (2, 14), (2, 15), (2, 16), (2, 17), (2, 18), (2, 19), (2, 20), (2, 21), (2, 22), (2, 23), (3, 0), (3, 1), (3, 2), (3, 3), (3, 4), (3, 5), (3, 6), (3, 7), (3, 8), (3, 9), (3, 10), (3, 11), (3, 12)] rfl (by decide +kernel)) (goodIn_app (goodIn_c zc_wsX12_halves_in [(3, 13), (3, 14), (3, 15), (3, 16), (3, 17), (3, 18), (3, 19), (3, 20), (3, 21), (3, 22), (3, 23), (4, 0), (4, 1), (4, 2), (4, 3), (4, 4), (4, 5), (4, 6), (4, 7), (4, 8), (4, 9), (4, 10), (4, 11), (4, 12)] rfl (by decide +kernel)) (goodIn_app (goodIn_c zc_wsX12_halves_in [(4, 13), (4, 14), (4, 15), (4, 16), (4, 17), (4, 18), (4, 19), (4, 20), (0, 2), (0, 0), (4, 21), (4, 22), (4, 23), (5, 0), (5, 1), (5, 2), (5, 3), (5, 4), (5, 5), (5, 6), (5, 7), (5, 8), (5, 9), (5, 10)] rfl (by decide +kernel)) (goodIn_c zc_wsX12_halves_in [(5, 11), (5, 12), (5, 13), (5, 14), (5, 15), (5, 16), (5, 17), (5, 18), (5, 19), (5, 20), (5, 21)] rfl (by decide +kernel))))))) (goodIn_sub zB_X12_halves_X120 zgw_X120))
set_option maxRecDepth 100000 in
theorem gX12_halves_X12_halve : GoodIn wsX12_halves (wsV RX12 487 RX12 yX12_halve wsX12_halve) := goodIn_app (goodIn_r _ [13, 14, 15, 7] rfl (by decide +kernel)) ggX12_halves_X12_halve
noncomputable def zc_wsX12_laysSingle : List (List Cond) := [wsX12_laysSingle_r1, wsX12_laysSingle_r2, wsX12_laysSingle_r3, wsX12_laysSingle_r4, wsX12_laysSingle_r5, wsX120]
set_option maxRecDepth 20000 in
theorem zc_wsX12_laysSingle_in : ∀ l ∈ zc_wsX12_laysSingle, ∀ w ∈ l, w ∈ wsX12_laysSingle := by
  intro l hl
  unfold zc_wsX12_laysSingle at hl
  rcases List.mem_cons.mp hl with e | hl
  · rw [e]
    exact fun w h => List.mem_cons_of_mem _ (List.mem_append_left _ (List.mem_append_left _ h))
  rcases List.mem_cons.mp hl with e | hl
  · rw [e]
    exact fun w h => List.mem_cons_of_mem _ (List.mem_append_left _ (List.mem_append_right _ (List.mem_append_left _ h)))
  rcases List.mem_cons.mp hl with e | hl
  · rw [e]
    exact fun w h => List.mem_cons_of_mem _ (List.mem_append_left _ (List.mem_append_right _ (List.mem_append_right _ (List.mem_append_left _ h))))
  rcases List.mem_cons.mp hl with e | hl
  · rw [e]
    exact fun w h => List.mem_cons_of_mem _ (List.mem_append_left _ (List.mem_append_right _ (List.mem_append_right _ (List.mem_append_right _ (List.mem_append_left _ h)))))
  rcases List.mem_cons.mp hl with e | hl
  · rw [e]
    exact fun w h => List.mem_cons_of_mem _ (List.mem_append_left _ (List.mem_append_right _ (List.mem_append_right _ (List.mem_append_right _ (List.mem_append_right _ h)))))
  rcases List.mem_cons.mp hl with e | hl
  · rw [e]
    exact fun w h => List.mem_cons_of_mem _ (List.mem_append_right _ h)
  cases hl
theorem zB_X12_laysSingle_X120 : ∀ w ∈ wsX120, w ∈ wsX12_laysSingle := fun _ h => List.mem_cons_of_mem _ (List.mem_append_right _ h)
set_option maxRecDepth 100000 in
theorem ggX12_laysSingle_X12_laysFree : GoodIn wsX12_laysSingle wsX12_laysFree := goodIn_hd (goodIn_c zc_wsX12_laysSingle_in [(0, 13)] rfl (by decide +kernel)) (goodIn_app (goodIn_c zc_wsX12_laysSingle_in [(0, 5), (0, 14), (0, 15), (0, 8), (0, 16), (0, 17), (0, 18), (0, 12), (0, 19), (0, 20)] rfl (by decide +kernel)) (goodIn_sub zB_X12_laysSingle_X120 zgw_X120))
set_option maxRecDepth 100000 in
theorem gX12_laysSingle_X12_laysFree : GoodIn wsX12_laysSingle (wsV RX12 358 RX12 yX12_laysFree wsX12_laysFree) := goodIn_app (goodIn_r _ [10, 11, 12, 13] rfl (by decide +kernel)) ggX12_laysSingle_X12_laysFree
set_option maxRecDepth 100000 in
theorem ggX12_laysSingle_X12_triesHand : GoodIn wsX12_laysSingle wsX12_triesHand := goodIn_hd (goodIn_c zc_wsX12_laysSingle_in [(1, 0)] rfl (by decide +kernel)) (goodIn_app (goodIn_c zc_wsX12_laysSingle_in [(0, 14), (1, 1), (0, 7)] rfl (by decide +kernel)) (goodIn_sub zB_X12_laysSingle_X120 zgw_X120))
set_option maxRecDepth 100000 in
theorem gX12_laysSingle_X12_triesHand : GoodIn wsX12_laysSingle (wsV RX12 440 RX12 yX12_triesHand wsX12_triesHand) := goodIn_app (goodIn_r _ [22, 23, 24, 13] rfl (by decide +kernel)) ggX12_laysSingle_X12_triesHand
set_option maxRecDepth 100000 in
theorem ggX12_laysSingle_X12_costTried : GoodIn wsX12_laysSingle wsX12_costTried := goodIn_hd (goodIn_c zc_wsX12_laysSingle_in [(1, 5)] rfl (by decide +kernel)) (goodIn_app (goodIn_c zc_wsX12_laysSingle_in [(1, 6), (0, 14), (1, 7), (1, 1), (1, 8), (1, 9), (1, 10), (0, 12), (1, 11), (1, 12), (1, 13), (1, 14), (1, 15), (1, 16), (1, 17)] rfl (by decide +kernel)) (goodIn_sub zB_X12_laysSingle_X120 zgw_X120))
set_option maxRecDepth 100000 in
theorem gX12_laysSingle_X12_costTried : GoodIn wsX12_laysSingle (wsV RX12 449 RX12 yX12_costTried wsX12_costTried) := goodIn_app (goodIn_r _ [27, 28, 29, 13] rfl (by decide +kernel)) ggX12_laysSingle_X12_costTried
set_option maxRecDepth 100000 in
theorem ggX12_laysSingle_X12_triesGroup : GoodIn wsX12_laysSingle wsX12_triesGroup := goodIn_hd (goodIn_c zc_wsX12_laysSingle_in [(1, 21)] rfl (by decide +kernel)) (goodIn_app (goodIn_c zc_wsX12_laysSingle_in [(0, 14), (1, 1), (0, 15)] rfl (by decide +kernel)) (goodIn_sub zB_X12_laysSingle_X120 zgw_X120))
set_option maxRecDepth 100000 in
theorem gX12_laysSingle_X12_triesGroup : GoodIn wsX12_laysSingle (wsV RX12 462 RX12 yX12_triesGroup wsX12_triesGroup) := goodIn_app (goodIn_r _ [43, 44, 45, 13] rfl (by decide +kernel)) ggX12_laysSingle_X12_triesGroup
set_option maxRecDepth 100000 in
theorem ggX12_laysSingle_X12_passes : GoodIn wsX12_laysSingle wsX12_passes := goodIn_hd (goodIn_c zc_wsX12_laysSingle_in [(2, 1)] rfl (by decide +kernel)) (goodIn_app (goodIn_app (goodIn_c zc_wsX12_laysSingle_in [(2, 2), (2, 3), (0, 14), (2, 4), (2, 5), (1, 1), (2, 6), (2, 7), (2, 8), (2, 9), (0, 12), (2, 10), (2, 11), (0, 0), (2, 12), (2, 13), (2, 14), (2, 15), (2, 16), (2, 17), (2, 18), (2, 19), (2, 20), (1, 13)] rfl (by decide +kernel)) (goodIn_app (goodIn_c zc_wsX12_laysSingle_in [(1, 12), (2, 21), (2, 22), (2, 23), (3, 0), (3, 1), (3, 2), (3, 3), (3, 4), (3, 5), (3, 6), (3, 7), (3, 8), (3, 9), (3, 10), (3, 11), (3, 12), (3, 13), (3, 14), (3, 15), (3, 16), (3, 17), (3, 18), (3, 19)] rfl (by decide +kernel)) (goodIn_c zc_wsX12_laysSingle_in [(3, 20), (3, 21), (3, 22), (3, 23), (4, 0), (4, 1), (4, 2), (4, 3), (4, 4), (4, 5), (4, 6), (4, 7), (4, 8), (4, 9), (4, 10)] rfl (by decide +kernel)))) (goodIn_sub zB_X12_laysSingle_X120 zgw_X120))
set_option maxRecDepth 100000 in
theorem gX12_laysSingle_X12_passes : GoodIn wsX12_laysSingle (wsV RX12 443 RX12 yX12_passes wsX12_passes) := goodIn_app (goodIn_r _ [47, 48, 49, 13] rfl (by decide +kernel)) ggX12_laysSingle_X12_passes
noncomputable def zc_wsX12_single : List (List Cond) := [wsX12_single_r1, wsX12_single_r2, wsX12_single_r3, wsX12_single_r4, wsX12_single_r5, wsX120]
set_option maxRecDepth 20000 in
theorem zc_wsX12_single_in : ∀ l ∈ zc_wsX12_single, ∀ w ∈ l, w ∈ wsX12_single := by
  intro l hl
  unfold zc_wsX12_single at hl
  rcases List.mem_cons.mp hl with e | hl
  · rw [e]
    exact fun w h => List.mem_cons_of_mem _ (List.mem_append_left _ (List.mem_append_left _ h))
  rcases List.mem_cons.mp hl with e | hl
  · rw [e]
    exact fun w h => List.mem_cons_of_mem _ (List.mem_append_left _ (List.mem_append_right _ (List.mem_append_left _ h)))
  rcases List.mem_cons.mp hl with e | hl
  · rw [e]
    exact fun w h => List.mem_cons_of_mem _ (List.mem_append_left _ (List.mem_append_right _ (List.mem_append_right _ (List.mem_append_left _ h))))
  rcases List.mem_cons.mp hl with e | hl
  · rw [e]
    exact fun w h => List.mem_cons_of_mem _ (List.mem_append_left _ (List.mem_append_right _ (List.mem_append_right _ (List.mem_append_right _ (List.mem_append_left _ h)))))
  rcases List.mem_cons.mp hl with e | hl
  · rw [e]
    exact fun w h => List.mem_cons_of_mem _ (List.mem_append_left _ (List.mem_append_right _ (List.mem_append_right _ (List.mem_append_right _ (List.mem_append_right _ h)))))
  rcases List.mem_cons.mp hl with e | hl
  · rw [e]
    exact fun w h => List.mem_cons_of_mem _ (List.mem_append_right _ h)
  cases hl
theorem zB_X12_single_X120 : ∀ w ∈ wsX120, w ∈ wsX12_single := fun _ h => List.mem_cons_of_mem _ (List.mem_append_right _ h)
set_option maxRecDepth 100000 in
theorem ggX12_single_X12_isThere : GoodIn wsX12_single wsX12_isThere := goodIn_hd (goodIn_c zc_wsX12_single_in [(0, 9)] rfl (by decide +kernel)) (goodIn_app (goodIn_c zc_wsX12_single_in [(0, 10), (0, 11)] rfl (by decide +kernel)) (goodIn_sub zB_X12_single_X120 zgw_X120))
set_option maxRecDepth 100000 in
theorem gX12_single_X12_isThere : GoodIn wsX12_single (wsV RX12 446 RX12 yX12_isThere wsX12_isThere) := goodIn_app (goodIn_r _ [6, 7, 8, 9] rfl (by decide +kernel)) ggX12_single_X12_isThere
set_option maxRecDepth 100000 in
theorem ggX12_single_X12_isIn : GoodIn wsX12_single wsX12_isIn := goodIn_r _ [15] rfl (by decide +kernel)
set_option maxRecDepth 100000 in
theorem gX12_single_X12_isIn : GoodIn wsX12_single (va_wsS RX12 263 yX12_isIn wsX12_isIn) := goodIn_app (goodIn_r _ [13, 14, 9] rfl (by decide +kernel)) ggX12_single_X12_isIn
set_option maxRecDepth 100000 in
theorem ggX12_single_X12_laysSingle : GoodIn wsX12_single wsX12_laysSingle := goodIn_hd (goodIn_c zc_wsX12_single_in [(0, 18)] rfl (by decide +kernel)) (goodIn_app (goodIn_app (goodIn_c zc_wsX12_single_in [(0, 19), (0, 1), (0, 2), (0, 3), (0, 4), (0, 20), (0, 21), (0, 22), (0, 23), (1, 0), (1, 1), (1, 2), (0, 8), (1, 3), (0, 11), (1, 4), (1, 5), (1, 6), (1, 7), (1, 8), (1, 9), (1, 10), (1, 11), (1, 12)] rfl (by decide +kernel)) (goodIn_app (goodIn_c zc_wsX12_single_in [(1, 13), (1, 14), (1, 15), (1, 16), (1, 17), (1, 18), (1, 19), (1, 20), (1, 21), (1, 22), (1, 23), (2, 0), (2, 1), (2, 2), (2, 3), (2, 4), (2, 5), (2, 6), (2, 7), (2, 8), (2, 9), (2, 10), (2, 11), (2, 12)] rfl (by decide +kernel)) (goodIn_app (goodIn_c zc_wsX12_single_in [(2, 13), (2, 14), (2, 15), (2, 16), (2, 17), (2, 18), (2, 19), (2, 20), (2, 21), (2, 22), (2, 23), (3, 0), (3, 1), (3, 2), (3, 3), (3, 4), (3, 5), (3, 6), (3, 7), (3, 8), (3, 9), (3, 10), (3, 11), (3, 12)] rfl (by decide +kernel)) (goodIn_app (goodIn_c zc_wsX12_single_in [(3, 13), (3, 14), (3, 15), (3, 16), (3, 17), (3, 18), (3, 19), (3, 20), (3, 21), (3, 22), (3, 23), (4, 0), (4, 1), (4, 2), (4, 3), (4, 4), (4, 5), (4, 6), (4, 7), (4, 8), (4, 9), (4, 10), (4, 11), (4, 12)] rfl (by decide +kernel)) (goodIn_c zc_wsX12_single_in [(4, 13), (4, 14), (4, 15), (4, 16), (4, 17), (4, 18), (4, 19), (4, 20), (4, 21), (4, 22), (4, 23)] rfl (by decide +kernel)))))) (goodIn_sub zB_X12_single_X120 zgw_X120))
set_option maxRecDepth 100000 in
theorem gX12_single_X12_laysSingle : GoodIn wsX12_single (wsV RX12 492 RX12 yX12_laysSingle wsX12_laysSingle) := goodIn_app (goodIn_r _ [16, 17, 18, 9] rfl (by decide +kernel)) ggX12_single_X12_laysSingle
noncomputable def zc_wsX12_canTake : List (List Cond) := [wsX12_canTake_r1, wsX12_canTake_r2, wsX12_canTake_r3, wsX12_canTake_r4, wsX12_canTake_r5, wsX12_canTake_r6, wsX12_canTake_r7, wsX120]
set_option maxRecDepth 20000 in
theorem zc_wsX12_canTake_in : ∀ l ∈ zc_wsX12_canTake, ∀ w ∈ l, w ∈ wsX12_canTake := by
  intro l hl
  unfold zc_wsX12_canTake at hl
  rcases List.mem_cons.mp hl with e | hl
  · rw [e]
    exact fun w h => List.mem_cons_of_mem _ (List.mem_append_left _ (List.mem_append_left _ h))
  rcases List.mem_cons.mp hl with e | hl
  · rw [e]
    exact fun w h => List.mem_cons_of_mem _ (List.mem_append_left _ (List.mem_append_right _ (List.mem_append_left _ h)))
  rcases List.mem_cons.mp hl with e | hl
  · rw [e]
    exact fun w h => List.mem_cons_of_mem _ (List.mem_append_left _ (List.mem_append_right _ (List.mem_append_right _ (List.mem_append_left _ h))))
  rcases List.mem_cons.mp hl with e | hl
  · rw [e]
    exact fun w h => List.mem_cons_of_mem _ (List.mem_append_left _ (List.mem_append_right _ (List.mem_append_right _ (List.mem_append_right _ (List.mem_append_left _ h)))))
  rcases List.mem_cons.mp hl with e | hl
  · rw [e]
    exact fun w h => List.mem_cons_of_mem _ (List.mem_append_left _ (List.mem_append_right _ (List.mem_append_right _ (List.mem_append_right _ (List.mem_append_right _ (List.mem_append_left _ h))))))
  rcases List.mem_cons.mp hl with e | hl
  · rw [e]
    exact fun w h => List.mem_cons_of_mem _ (List.mem_append_left _ (List.mem_append_right _ (List.mem_append_right _ (List.mem_append_right _ (List.mem_append_right _ (List.mem_append_right _ (List.mem_append_left _ h)))))))
  rcases List.mem_cons.mp hl with e | hl
  · rw [e]
    exact fun w h => List.mem_cons_of_mem _ (List.mem_append_left _ (List.mem_append_right _ (List.mem_append_right _ (List.mem_append_right _ (List.mem_append_right _ (List.mem_append_right _ (List.mem_append_right _ h)))))))
  rcases List.mem_cons.mp hl with e | hl
  · rw [e]
    exact fun w h => List.mem_cons_of_mem _ (List.mem_append_right _ h)
  cases hl
theorem zB_X12_canTake_X120 : ∀ w ∈ wsX120, w ∈ wsX12_canTake := fun _ h => List.mem_cons_of_mem _ (List.mem_append_right _ h)
set_option maxRecDepth 100000 in
theorem ggX12_canTake_X12_canSearch : GoodIn wsX12_canTake wsX12_canSearch := goodIn_hd (goodIn_c zc_wsX12_canTake_in [(0, 9)] rfl (by decide +kernel)) (goodIn_app (goodIn_c zc_wsX12_canTake_in [(0, 10), (0, 0), (0, 11), (0, 12), (0, 13), (0, 14), (0, 15), (0, 8), (0, 16), (0, 17), (0, 18), (0, 19), (0, 20), (0, 21), (0, 22), (0, 23)] rfl (by decide +kernel)) (goodIn_sub zB_X12_canTake_X120 zgw_X120))
set_option maxRecDepth 100000 in
theorem gX12_canTake_X12_canSearch : GoodIn wsX12_canTake (wsV RX12 471 RX12 yX12_canSearch wsX12_canSearch) := goodIn_app (goodIn_r _ [6, 7, 8, 9] rfl (by decide +kernel)) ggX12_canTake_X12_canSearch
set_option maxRecDepth 100000 in
theorem ggX12_canTake_X12_cheapestChoice : GoodIn wsX12_canTake wsX12_cheapestChoice := goodIn_hd (goodIn_c zc_wsX12_canTake_in [(1, 3)] rfl (by decide +kernel)) (goodIn_app (goodIn_app (goodIn_c zc_wsX12_canTake_in [(1, 4), (1, 5), (1, 6), (0, 8), (1, 7), (0, 12), (1, 8), (1, 9), (1, 10), (1, 11), (1, 12), (0, 18), (1, 13), (1, 14), (1, 15), (1, 16), (0, 0), (0, 1), (1, 17), (1, 18), (1, 19), (1, 20), (1, 21), (0, 17)] rfl (by decide +kernel)) (goodIn_app (goodIn_c zc_wsX12_canTake_in [(1, 22), (1, 23), (2, 0), (2, 1), (2, 2), (2, 3), (2, 4), (2, 5), (2, 6), (2, 7), (2, 8), (2, 9), (2, 10), (2, 11), (2, 12), (2, 13), (2, 14), (2, 15), (2, 16), (2, 17), (2, 18), (2, 19), (2, 20), (2, 21)] rfl (by decide +kernel)) (goodIn_app (goodIn_c zc_wsX12_canTake_in [(2, 22), (2, 23), (3, 0), (3, 1), (3, 2), (3, 3), (0, 10), (3, 4), (3, 5), (3, 6), (3, 7), (3, 8), (3, 9), (3, 10), (3, 11), (3, 12), (3, 13), (3, 14), (3, 15), (3, 16), (3, 17), (3, 18), (3, 19), (3, 20)] rfl (by decide +kernel)) (goodIn_app (goodIn_c zc_wsX12_canTake_in [(3, 21), (3, 22), (3, 23), (4, 0), (4, 1), (4, 2), (4, 3), (4, 4), (4, 5), (4, 6), (4, 7), (4, 8), (4, 9), (4, 10), (4, 11), (4, 12), (4, 13), (4, 14), (4, 15), (4, 16), (4, 17), (4, 18), (4, 19), (4, 20)] rfl (by decide +kernel)) (goodIn_c zc_wsX12_canTake_in [(4, 21), (4, 22), (4, 23), (5, 0), (5, 1), (5, 2)] rfl (by decide +kernel)))))) (goodIn_sub zB_X12_canTake_X120 zgw_X120))
set_option maxRecDepth 100000 in
theorem gX12_canTake_X12_cheapestChoice : GoodIn wsX12_canTake (wsV RX12 474 RX12 yX12_cheapestChoice wsX12_cheapestChoice) := goodIn_app (goodIn_r _ [25, 26, 27, 9] rfl (by decide +kernel)) ggX12_canTake_X12_cheapestChoice
set_option maxRecDepth 100000 in
theorem ggX12_canTake_X12_triesChoice : GoodIn wsX12_canTake wsX12_triesChoice := goodIn_hd (goodIn_c zc_wsX12_canTake_in [(1, 12)] rfl (by decide +kernel)) (goodIn_app (goodIn_c zc_wsX12_canTake_in [(0, 12), (0, 18), (1, 8), (1, 13), (1, 14), (1, 15), (0, 8), (1, 16), (0, 0), (0, 1), (1, 17), (1, 18), (1, 19), (1, 20), (1, 21), (0, 17)] rfl (by decide +kernel)) (goodIn_sub zB_X12_canTake_X120 zgw_X120))
set_option maxRecDepth 100000 in
theorem gX12_canTake_X12_triesChoice : GoodIn wsX12_canTake (wsV RX12 468 RX12 yX12_triesChoice wsX12_triesChoice) := goodIn_app (goodIn_r _ [34, 35, 36, 9] rfl (by decide +kernel)) ggX12_canTake_X12_triesChoice
set_option maxRecDepth 100000 in
theorem ggX12_canTake_X12_halve : GoodIn wsX12_canTake wsX12_halve := goodIn_hd (goodIn_c zc_wsX12_canTake_in [(5, 6)] rfl (by decide +kernel)) (goodIn_app (goodIn_app (goodIn_c zc_wsX12_canTake_in [(0, 10), (0, 12), (0, 18), (5, 7), (5, 8), (1, 8), (0, 13), (0, 14), (0, 15), (0, 8), (0, 16), (0, 0), (0, 17), (0, 19), (0, 20), (0, 21), (0, 22), (0, 23), (5, 9), (5, 10), (5, 11), (5, 12), (0, 11), (5, 13)] rfl (by decide +kernel)) (goodIn_app (goodIn_c zc_wsX12_canTake_in [(5, 14), (5, 15), (5, 16), (4, 15), (1, 13), (1, 14), (1, 15), (1, 16), (0, 1), (1, 17), (1, 18), (1, 19), (1, 20), (1, 21), (2, 14), (2, 15), (2, 16), (2, 17), (2, 18), (2, 19), (2, 20), (2, 21), (2, 22), (2, 23)] rfl (by decide +kernel)) (goodIn_app (goodIn_c zc_wsX12_canTake_in [(3, 0), (3, 1), (3, 2), (3, 3), (3, 4), (3, 5), (3, 6), (3, 7), (3, 8), (3, 9), (3, 10), (3, 11), (3, 12), (2, 9), (2, 8), (3, 13), (3, 14), (3, 15), (3, 16), (3, 17), (3, 18), (3, 19), (3, 20), (3, 21)] rfl (by decide +kernel)) (goodIn_app (goodIn_c zc_wsX12_canTake_in [(3, 22), (3, 23), (4, 0), (4, 1), (4, 2), (4, 3), (4, 4), (4, 5), (4, 6), (4, 7), (4, 8), (4, 9), (4, 10), (4, 11), (4, 12), (4, 13), (4, 14), (4, 16), (4, 17), (4, 18), (4, 19), (4, 20), (4, 21), (4, 22)] rfl (by decide +kernel)) (goodIn_app (goodIn_c zc_wsX12_canTake_in [(4, 23), (5, 0), (5, 1), (5, 2), (5, 17), (5, 18), (5, 19), (5, 20), (0, 2), (5, 21), (1, 22), (1, 23), (2, 0), (2, 1), (2, 2), (2, 3), (2, 4), (2, 5), (2, 6), (2, 7), (2, 10), (2, 11), (2, 12), (2, 13)] rfl (by decide +kernel)) (goodIn_c zc_wsX12_canTake_in [(5, 22), (5, 23), (6, 0), (6, 1), (6, 2), (6, 3), (6, 4), (6, 5), (6, 6), (6, 7), (6, 8)] rfl (by decide +kernel))))))) (goodIn_sub zB_X12_canTake_X120 zgw_X120))
set_option maxRecDepth 100000 in
theorem gX12_canTake_X12_halve : GoodIn wsX12_canTake (wsV RX12 487 RX12 yX12_halve wsX12_halve) := goodIn_app (goodIn_r _ [124, 125, 126, 9] rfl (by decide +kernel)) ggX12_canTake_X12_halve
set_option maxRecDepth 100000 in
theorem ggX12_canTake_X12_isThere : GoodIn wsX12_canTake wsX12_isThere := goodIn_hd (goodIn_c zc_wsX12_canTake_in [(5, 12)] rfl (by decide +kernel)) (goodIn_app (goodIn_c zc_wsX12_canTake_in [(0, 11), (0, 0)] rfl (by decide +kernel)) (goodIn_sub zB_X12_canTake_X120 zgw_X120))
set_option maxRecDepth 100000 in
theorem gX12_canTake_X12_isThere : GoodIn wsX12_canTake (wsV RX12 446 RX12 yX12_isThere wsX12_isThere) := goodIn_app (goodIn_r _ [130, 131, 132, 9] rfl (by decide +kernel)) ggX12_canTake_X12_isThere
set_option maxRecDepth 100000 in
theorem ggX12_canTake_X12_laysSingle : GoodIn wsX12_canTake wsX12_laysSingle := goodIn_hd (goodIn_c zc_wsX12_canTake_in [(6, 12)] rfl (by decide +kernel)) (goodIn_app (goodIn_app (goodIn_c zc_wsX12_canTake_in [(0, 10), (6, 13), (6, 14), (0, 3), (0, 4), (0, 12), (1, 8), (1, 17), (0, 18), (0, 13), (0, 14), (0, 15), (0, 8), (0, 16), (0, 0), (0, 17), (0, 19), (0, 20), (0, 21), (0, 22), (0, 23), (1, 13), (1, 14), (1, 15)] rfl (by decide +kernel)) (goodIn_app (goodIn_c zc_wsX12_canTake_in [(1, 16), (0, 1), (1, 22), (1, 23), (2, 0), (2, 1), (2, 2), (2, 3), (2, 4), (2, 5), (2, 6), (2, 7), (2, 8), (2, 9), (2, 10), (2, 11), (2, 12), (2, 13), (1, 18), (1, 19), (1, 20), (1, 21), (2, 14), (2, 15)] rfl (by decide +kernel)) (goodIn_app (goodIn_c zc_wsX12_canTake_in [(2, 16), (2, 17), (2, 18), (2, 19), (2, 20), (2, 21), (2, 22), (2, 23), (3, 0), (3, 1), (3, 2), (3, 3), (3, 4), (3, 5), (3, 6), (3, 7), (3, 8), (3, 9), (3, 10), (3, 11), (3, 12), (3, 13), (3, 14), (3, 15)] rfl (by decide +kernel)) (goodIn_app (goodIn_c zc_wsX12_canTake_in [(3, 16), (3, 17), (3, 18), (3, 19), (3, 20), (3, 21), (3, 22), (3, 23), (4, 0), (4, 1), (4, 2), (4, 3), (4, 4), (4, 5), (4, 6), (4, 7), (4, 8), (4, 9), (4, 10), (4, 11), (4, 12), (4, 13), (4, 14), (4, 15)] rfl (by decide +kernel)) (goodIn_c zc_wsX12_canTake_in [(4, 16), (4, 17), (4, 18), (4, 19), (4, 20), (4, 21), (4, 22), (4, 23), (5, 0), (5, 1), (5, 2)] rfl (by decide +kernel)))))) (goodIn_sub zB_X12_canTake_X120 zgw_X120))
set_option maxRecDepth 100000 in
theorem gX12_canTake_X12_laysSingle : GoodIn wsX12_canTake (wsV RX12 492 RX12 yX12_laysSingle wsX12_laysSingle) := goodIn_app (goodIn_r _ [154, 155, 156, 9] rfl (by decide +kernel)) ggX12_canTake_X12_laysSingle
set_option maxRecDepth 100000 in
theorem ggX12_canTake_X12_triesHand : GoodIn wsX12_canTake wsX12_triesHand := goodIn_hd (goodIn_c zc_wsX12_canTake_in [(1, 16)] rfl (by decide +kernel)) (goodIn_app (goodIn_c zc_wsX12_canTake_in [(0, 0), (0, 1), (1, 17)] rfl (by decide +kernel)) (goodIn_sub zB_X12_canTake_X120 zgw_X120))
set_option maxRecDepth 100000 in
theorem gX12_canTake_X12_triesHand : GoodIn wsX12_canTake (wsV RX12 440 RX12 yX12_triesHand wsX12_triesHand) := goodIn_app (goodIn_r _ [38, 39, 40, 9] rfl (by decide +kernel)) ggX12_canTake_X12_triesHand
set_option maxRecDepth 100000 in
theorem ggX12_canTake_X12_triesGroup : GoodIn wsX12_canTake wsX12_triesGroup := goodIn_hd (goodIn_c zc_wsX12_canTake_in [(1, 21)] rfl (by decide +kernel)) (goodIn_app (goodIn_c zc_wsX12_canTake_in [(0, 0), (0, 1), (0, 17)] rfl (by decide +kernel)) (goodIn_sub zB_X12_canTake_X120 zgw_X120))
set_option maxRecDepth 100000 in
theorem gX12_canTake_X12_triesGroup : GoodIn wsX12_canTake (wsV RX12 462 RX12 yX12_triesGroup wsX12_triesGroup) := goodIn_app (goodIn_r _ [43, 44, 45, 9] rfl (by decide +kernel)) ggX12_canTake_X12_triesGroup
noncomputable def zc_wsX12_take : List (List Cond) := [wsX12_take_r1, wsX12_take_r2, wsX12_take_r3, wsX12_take_r4, wsX12_take_r5, wsX12_take_r6, wsX12_take_r7, wsX12_take_r8, wsX120]
set_option maxRecDepth 20000 in
theorem zc_wsX12_take_in : ∀ l ∈ zc_wsX12_take, ∀ w ∈ l, w ∈ wsX12_take := by
  intro l hl
  unfold zc_wsX12_take at hl
  rcases List.mem_cons.mp hl with e | hl
  · rw [e]
    exact fun w h => List.mem_cons_of_mem _ (List.mem_append_left _ (List.mem_append_left _ h))
  rcases List.mem_cons.mp hl with e | hl
  · rw [e]
    exact fun w h => List.mem_cons_of_mem _ (List.mem_append_left _ (List.mem_append_right _ (List.mem_append_left _ h)))
  rcases List.mem_cons.mp hl with e | hl
  · rw [e]
    exact fun w h => List.mem_cons_of_mem _ (List.mem_append_left _ (List.mem_append_right _ (List.mem_append_right _ (List.mem_append_left _ h))))
  rcases List.mem_cons.mp hl with e | hl
  · rw [e]
    exact fun w h => List.mem_cons_of_mem _ (List.mem_append_left _ (List.mem_append_right _ (List.mem_append_right _ (List.mem_append_right _ (List.mem_append_left _ h)))))
  rcases List.mem_cons.mp hl with e | hl
  · rw [e]
    exact fun w h => List.mem_cons_of_mem _ (List.mem_append_left _ (List.mem_append_right _ (List.mem_append_right _ (List.mem_append_right _ (List.mem_append_right _ (List.mem_append_left _ h))))))
  rcases List.mem_cons.mp hl with e | hl
  · rw [e]
    exact fun w h => List.mem_cons_of_mem _ (List.mem_append_left _ (List.mem_append_right _ (List.mem_append_right _ (List.mem_append_right _ (List.mem_append_right _ (List.mem_append_right _ (List.mem_append_left _ h)))))))
  rcases List.mem_cons.mp hl with e | hl
  · rw [e]
    exact fun w h => List.mem_cons_of_mem _ (List.mem_append_left _ (List.mem_append_right _ (List.mem_append_right _ (List.mem_append_right _ (List.mem_append_right _ (List.mem_append_right _ (List.mem_append_right _ (List.mem_append_left _ h))))))))
  rcases List.mem_cons.mp hl with e | hl
  · rw [e]
    exact fun w h => List.mem_cons_of_mem _ (List.mem_append_left _ (List.mem_append_right _ (List.mem_append_right _ (List.mem_append_right _ (List.mem_append_right _ (List.mem_append_right _ (List.mem_append_right _ (List.mem_append_right _ h))))))))
  rcases List.mem_cons.mp hl with e | hl
  · rw [e]
    exact fun w h => List.mem_cons_of_mem _ (List.mem_append_right _ h)
  cases hl
theorem zB_X12_take_X120 : ∀ w ∈ wsX120, w ∈ wsX12_take := fun _ h => List.mem_cons_of_mem _ (List.mem_append_right _ h)
set_option maxRecDepth 100000 in
theorem ggX12_take_X12_canTake : GoodIn wsX12_take wsX12_canTake := goodIn_hd (goodIn_c zc_wsX12_take_in [(0, 4)] rfl (by decide +kernel)) (goodIn_app (goodIn_app (goodIn_c zc_wsX12_take_in [(0, 5), (0, 6), (0, 7), (0, 8), (0, 9), (0, 10), (0, 11), (0, 12), (0, 3), (0, 13), (0, 14), (0, 15), (0, 16), (0, 17), (0, 18), (0, 19), (0, 20), (0, 21), (0, 22), (0, 23), (1, 0), (1, 1), (1, 2), (1, 3)] rfl (by decide +kernel)) (goodIn_app (goodIn_c zc_wsX12_take_in [(1, 4), (1, 5), (1, 6), (1, 7), (1, 8), (1, 9), (1, 10), (1, 11), (1, 12), (1, 13), (1, 14), (1, 15), (1, 16), (1, 17), (1, 18), (1, 19), (1, 20), (1, 21), (1, 22), (1, 23), (2, 0), (2, 1), (2, 2), (2, 3)] rfl (by decide +kernel)) (goodIn_app (goodIn_c zc_wsX12_take_in [(2, 4), (2, 5), (2, 6), (2, 7), (2, 8), (2, 9), (2, 10), (2, 11), (2, 12), (2, 13), (2, 14), (2, 15), (2, 16), (2, 17), (2, 18), (2, 19), (2, 20), (2, 21), (2, 22), (2, 23), (3, 0), (3, 1), (3, 2), (3, 3)] rfl (by decide +kernel)) (goodIn_app (goodIn_c zc_wsX12_take_in [(3, 4), (3, 5), (3, 6), (3, 7), (3, 8), (3, 9), (3, 10), (3, 11), (3, 12), (3, 13), (3, 14), (3, 15), (3, 16), (3, 17), (3, 18), (3, 19), (3, 20), (3, 21), (3, 22), (3, 23), (4, 0), (4, 1), (4, 2), (4, 3)] rfl (by decide +kernel)) (goodIn_app (goodIn_c zc_wsX12_take_in [(4, 4), (4, 5), (4, 6), (4, 7), (4, 8), (4, 9), (4, 10), (4, 11), (4, 12), (4, 13), (4, 14), (4, 15), (4, 16), (4, 17), (4, 18), (4, 19), (4, 20), (4, 21), (4, 22), (4, 23), (5, 0), (5, 1), (5, 2), (5, 3)] rfl (by decide +kernel)) (goodIn_app (goodIn_c zc_wsX12_take_in [(5, 4), (5, 5), (5, 6), (5, 7), (5, 8), (5, 9), (5, 10), (5, 11), (5, 12), (5, 13), (5, 14), (5, 15), (5, 16), (5, 17), (5, 18), (5, 19), (5, 20), (5, 21), (5, 22), (5, 23), (6, 0), (6, 1), (6, 2), (6, 3)] rfl (by decide +kernel)) (goodIn_c zc_wsX12_take_in [(6, 4), (6, 5), (6, 6), (6, 7), (6, 8), (6, 9), (6, 10), (6, 11), (6, 12), (6, 13), (6, 14), (6, 15), (6, 16), (6, 17), (6, 18)] rfl (by decide +kernel)))))))) (goodIn_sub zB_X12_take_X120 zgw_X120))
set_option maxRecDepth 100000 in
theorem gX12_take_X12_canTake : GoodIn wsX12_take (wsV RX12 495 RX12 yX12_canTake wsX12_canTake) := goodIn_app (goodIn_r _ [1, 2, 3, 4] rfl (by decide +kernel)) ggX12_take_X12_canTake
set_option maxRecDepth 100000 in
theorem ggX12_take_X12_refuses : GoodIn wsX12_take wsX12_refuses := goodIn_hd (goodIn_c zc_wsX12_take_in [(6, 22)] rfl (by decide +kernel)) (goodIn_app (goodIn_c zc_wsX12_take_in [(6, 23)] rfl (by decide +kernel)) (goodIn_sub zB_X12_take_X120 zgw_X120))
set_option maxRecDepth 100000 in
theorem gX12_take_X12_refuses : GoodIn wsX12_take (wsV RX12 216 RX12 yX12_refuses wsX12_refuses) := goodIn_app (goodIn_r _ [164, 165, 166, 4] rfl (by decide +kernel)) ggX12_take_X12_refuses
set_option maxRecDepth 100000 in
theorem ggX12_take_X12_takesTried : GoodIn wsX12_take wsX12_takesTried := goodIn_hd (goodIn_c zc_wsX12_take_in [(7, 3)] rfl (by decide +kernel)) (goodIn_app (goodIn_c zc_wsX12_take_in [(0, 5), (1, 21), (0, 6)] rfl (by decide +kernel)) (goodIn_sub zB_X12_take_X120 zgw_X120))
set_option maxRecDepth 100000 in
theorem gX12_take_X12_takesTried : GoodIn wsX12_take (wsV RX12 498 RX12 yX12_takesTried wsX12_takesTried) := goodIn_app (goodIn_r _ [169, 170, 171, 4] rfl (by decide +kernel)) ggX12_take_X12_takesTried
set_option maxRecDepth 100000 in
theorem ggX12_take_X12_costTried : GoodIn wsX12_take wsX12_costTried := goodIn_hd (goodIn_c zc_wsX12_take_in [(2, 5)] rfl (by decide +kernel)) (goodIn_app (goodIn_c zc_wsX12_take_in [(2, 6), (0, 5), (2, 7), (0, 6), (2, 8), (2, 9), (2, 10), (0, 3), (2, 11), (2, 12), (2, 13), (2, 14), (2, 15), (2, 16), (2, 17)] rfl (by decide +kernel)) (goodIn_sub zB_X12_take_X120 zgw_X120))
set_option maxRecDepth 100000 in
theorem gX12_take_X12_costTried : GoodIn wsX12_take (wsV RX12 449 RX12 yX12_costTried wsX12_costTried) := goodIn_app (goodIn_r _ [51, 52, 53, 4] rfl (by decide +kernel)) ggX12_take_X12_costTried
noncomputable def zc_wsX12_laysFront : List (List Cond) := [wsX12_laysFront_r1, wsX12_laysFront_r2, wsX12_laysFront_r3, wsX12_laysFront_r4, wsX12_laysFront_r5, wsX120]
set_option maxRecDepth 20000 in
theorem zc_wsX12_laysFront_in : ∀ l ∈ zc_wsX12_laysFront, ∀ w ∈ l, w ∈ wsX12_laysFront := by
  intro l hl
  unfold zc_wsX12_laysFront at hl
  rcases List.mem_cons.mp hl with e | hl
  · rw [e]
    exact fun w h => List.mem_cons_of_mem _ (List.mem_append_left _ (List.mem_append_left _ h))
  rcases List.mem_cons.mp hl with e | hl
  · rw [e]
    exact fun w h => List.mem_cons_of_mem _ (List.mem_append_left _ (List.mem_append_right _ (List.mem_append_left _ h)))
  rcases List.mem_cons.mp hl with e | hl
  · rw [e]
    exact fun w h => List.mem_cons_of_mem _ (List.mem_append_left _ (List.mem_append_right _ (List.mem_append_right _ (List.mem_append_left _ h))))
  rcases List.mem_cons.mp hl with e | hl
  · rw [e]
    exact fun w h => List.mem_cons_of_mem _ (List.mem_append_left _ (List.mem_append_right _ (List.mem_append_right _ (List.mem_append_right _ (List.mem_append_left _ h)))))
  rcases List.mem_cons.mp hl with e | hl
  · rw [e]
    exact fun w h => List.mem_cons_of_mem _ (List.mem_append_left _ (List.mem_append_right _ (List.mem_append_right _ (List.mem_append_right _ (List.mem_append_right _ h)))))
  rcases List.mem_cons.mp hl with e | hl
  · rw [e]
    exact fun w h => List.mem_cons_of_mem _ (List.mem_append_right _ h)
  cases hl
theorem zB_X12_laysFront_X120 : ∀ w ∈ wsX120, w ∈ wsX12_laysFront := fun _ h => List.mem_cons_of_mem _ (List.mem_append_right _ h)
set_option maxRecDepth 100000 in
theorem ggX12_laysFront_X12_allChoices : GoodIn wsX12_laysFront wsX12_allChoices := goodIn_hd (goodIn_c zc_wsX12_laysFront_in [(0, 9)] rfl (by decide +kernel)) (goodIn_app (goodIn_c zc_wsX12_laysFront_in [(0, 10), (0, 11)] rfl (by decide +kernel)) (goodIn_sub zB_X12_laysFront_X120 zgw_X120))
set_option maxRecDepth 100000 in
theorem gX12_laysFront_X12_allChoices : GoodIn wsX12_laysFront (wsV RX12 465 RX12 yX12_allChoices wsX12_allChoices) := goodIn_app (goodIn_r _ [6, 7, 8, 9] rfl (by decide +kernel)) ggX12_laysFront_X12_allChoices
set_option maxRecDepth 100000 in
theorem ggX12_laysFront_X12_triesChoice : GoodIn wsX12_laysFront wsX12_triesChoice := goodIn_hd (goodIn_c zc_wsX12_laysFront_in [(0, 15)] rfl (by decide +kernel)) (goodIn_app (goodIn_c zc_wsX12_laysFront_in [(0, 10), (0, 16), (0, 11), (0, 17), (0, 18), (0, 19), (0, 8), (0, 20), (0, 21), (0, 22), (0, 23), (1, 0), (1, 1), (1, 2), (1, 3), (1, 4)] rfl (by decide +kernel)) (goodIn_sub zB_X12_laysFront_X120 zgw_X120))
set_option maxRecDepth 100000 in
theorem gX12_laysFront_X12_triesChoice : GoodIn wsX12_laysFront (wsV RX12 468 RX12 yX12_triesChoice wsX12_triesChoice) := goodIn_app (goodIn_r _ [13, 14, 15, 9] rfl (by decide +kernel)) ggX12_laysFront_X12_triesChoice
set_option maxRecDepth 100000 in
theorem ggX12_laysFront_X12_passes : GoodIn wsX12_laysFront wsX12_passes := goodIn_hd (goodIn_c zc_wsX12_laysFront_in [(1, 8)] rfl (by decide +kernel)) (goodIn_app (goodIn_app (goodIn_c zc_wsX12_laysFront_in [(1, 9), (1, 10), (0, 21), (0, 1), (1, 11), (0, 22), (1, 12), (1, 13), (1, 14), (1, 15), (0, 8), (1, 16), (1, 17), (1, 18), (1, 19), (1, 20), (1, 21), (1, 22), (1, 23), (2, 0), (2, 1), (2, 2), (2, 3), (2, 4)] rfl (by decide +kernel)) (goodIn_app (goodIn_c zc_wsX12_laysFront_in [(2, 5), (2, 6), (2, 7), (2, 8), (2, 9), (2, 10), (2, 11), (2, 12), (2, 13), (2, 14), (2, 15), (2, 16), (2, 17), (2, 18), (2, 19), (2, 20), (2, 21), (2, 22), (2, 23), (3, 0), (3, 1), (3, 2), (3, 3), (3, 4)] rfl (by decide +kernel)) (goodIn_c zc_wsX12_laysFront_in [(3, 5), (3, 6), (3, 7), (3, 8), (3, 9), (3, 10), (3, 11), (3, 12), (3, 13), (3, 14), (3, 15), (3, 16), (3, 17), (3, 18), (3, 19)] rfl (by decide +kernel)))) (goodIn_sub zB_X12_laysFront_X120 zgw_X120))
set_option maxRecDepth 100000 in
theorem gX12_laysFront_X12_passes : GoodIn wsX12_laysFront (wsV RX12 443 RX12 yX12_passes wsX12_passes) := goodIn_app (goodIn_r _ [30, 31, 32, 9] rfl (by decide +kernel)) ggX12_laysFront_X12_passes
set_option maxRecDepth 100000 in
theorem ggX12_laysFront_X12_costTried : GoodIn wsX12_laysFront wsX12_costTried := goodIn_hd (goodIn_c zc_wsX12_laysFront_in [(3, 23)] rfl (by decide +kernel)) (goodIn_app (goodIn_c zc_wsX12_laysFront_in [(4, 0), (0, 21), (4, 1), (0, 22), (4, 2), (4, 3), (4, 4), (0, 8), (4, 5), (2, 5), (2, 4), (4, 6), (4, 7), (4, 8), (4, 9)] rfl (by decide +kernel)) (goodIn_sub zB_X12_laysFront_X120 zgw_X120))
set_option maxRecDepth 100000 in
theorem gX12_laysFront_X12_costTried : GoodIn wsX12_laysFront (wsV RX12 449 RX12 yX12_costTried wsX12_costTried) := goodIn_app (goodIn_r _ [93, 94, 95, 9] rfl (by decide +kernel)) ggX12_laysFront_X12_costTried
set_option maxRecDepth 100000 in
theorem ggX12_laysFront_X12_laysCouple : GoodIn wsX12_laysFront wsX12_laysCouple := goodIn_hd (goodIn_c zc_wsX12_laysFront_in [(4, 13)] rfl (by decide +kernel)) (goodIn_app (goodIn_c zc_wsX12_laysFront_in [(0, 0), (0, 3), (0, 2), (0, 4)] rfl (by decide +kernel)) (goodIn_sub zB_X12_laysFront_X120 zgw_X120))
set_option maxRecDepth 100000 in
theorem gX12_laysFront_X12_laysCouple : GoodIn wsX12_laysFront (wsV RX12 501 RX12 yX12_laysCouple wsX12_laysCouple) := goodIn_app (goodIn_r _ [107, 108, 109, 9] rfl (by decide +kernel)) ggX12_laysFront_X12_laysCouple
noncomputable def zc_wsX12_front : List (List Cond) := [wsX12_front_r1, wsX12_front_r2, wsX12_front_r3, wsX12_front_r4, wsX12_front_r5, wsX12_front_r6, wsX120]
set_option maxRecDepth 20000 in
theorem zc_wsX12_front_in : ∀ l ∈ zc_wsX12_front, ∀ w ∈ l, w ∈ wsX12_front := by
  intro l hl
  unfold zc_wsX12_front at hl
  rcases List.mem_cons.mp hl with e | hl
  · rw [e]
    exact fun w h => List.mem_cons_of_mem _ (List.mem_append_left _ (List.mem_append_left _ h))
  rcases List.mem_cons.mp hl with e | hl
  · rw [e]
    exact fun w h => List.mem_cons_of_mem _ (List.mem_append_left _ (List.mem_append_right _ (List.mem_append_left _ h)))
  rcases List.mem_cons.mp hl with e | hl
  · rw [e]
    exact fun w h => List.mem_cons_of_mem _ (List.mem_append_left _ (List.mem_append_right _ (List.mem_append_right _ (List.mem_append_left _ h))))
  rcases List.mem_cons.mp hl with e | hl
  · rw [e]
    exact fun w h => List.mem_cons_of_mem _ (List.mem_append_left _ (List.mem_append_right _ (List.mem_append_right _ (List.mem_append_right _ (List.mem_append_left _ h)))))
  rcases List.mem_cons.mp hl with e | hl
  · rw [e]
    exact fun w h => List.mem_cons_of_mem _ (List.mem_append_left _ (List.mem_append_right _ (List.mem_append_right _ (List.mem_append_right _ (List.mem_append_right _ (List.mem_append_left _ h))))))
  rcases List.mem_cons.mp hl with e | hl
  · rw [e]
    exact fun w h => List.mem_cons_of_mem _ (List.mem_append_left _ (List.mem_append_right _ (List.mem_append_right _ (List.mem_append_right _ (List.mem_append_right _ (List.mem_append_right _ h))))))
  rcases List.mem_cons.mp hl with e | hl
  · rw [e]
    exact fun w h => List.mem_cons_of_mem _ (List.mem_append_right _ h)
  cases hl
theorem zB_X12_front_X120 : ∀ w ∈ wsX120, w ∈ wsX12_front := fun _ h => List.mem_cons_of_mem _ (List.mem_append_right _ h)
set_option maxRecDepth 100000 in
theorem ggX12_front_X12_isAnswer : GoodIn wsX12_front wsX12_isAnswer := goodIn_hd (goodIn_c zc_wsX12_front_in [(0, 10)] rfl (by decide +kernel)) (goodIn_app (goodIn_c zc_wsX12_front_in [(0, 11), (0, 12), (0, 13), (0, 14), (0, 9), (0, 15), (0, 16), (0, 17), (0, 18), (0, 19)] rfl (by decide +kernel)) (goodIn_sub zB_X12_front_X120 zgw_X120))
set_option maxRecDepth 100000 in
theorem gX12_front_X12_isAnswer : GoodIn wsX12_front (wsV RX12 455 RX12 yX12_isAnswer wsX12_isAnswer) := goodIn_app (goodIn_r _ [7, 8, 9, 10] rfl (by decide +kernel)) ggX12_front_X12_isAnswer
set_option maxRecDepth 100000 in
theorem ggX12_front_X12_canSearch : GoodIn wsX12_front wsX12_canSearch := goodIn_hd (goodIn_c zc_wsX12_front_in [(0, 23)] rfl (by decide +kernel)) (goodIn_app (goodIn_c zc_wsX12_front_in [(1, 0), (0, 16), (1, 1), (1, 2), (1, 3), (1, 4), (1, 5), (0, 9), (1, 6), (1, 7), (1, 8), (1, 9), (1, 10), (1, 11), (1, 12), (1, 13)] rfl (by decide +kernel)) (goodIn_sub zB_X12_front_X120 zgw_X120))
set_option maxRecDepth 100000 in
theorem gX12_front_X12_canSearch : GoodIn wsX12_front (wsV RX12 471 RX12 yX12_canSearch wsX12_canSearch) := goodIn_app (goodIn_r _ [21, 22, 23, 10] rfl (by decide +kernel)) ggX12_front_X12_canSearch
set_option maxRecDepth 100000 in
theorem ggX12_front_X12_isIn : GoodIn wsX12_front wsX12_isIn := goodIn_r _ [20] rfl (by decide +kernel)
set_option maxRecDepth 100000 in
theorem gX12_front_X12_isIn : GoodIn wsX12_front (va_wsS RX12 263 yX12_isIn wsX12_isIn) := goodIn_app (goodIn_r _ [18, 19, 10] rfl (by decide +kernel)) ggX12_front_X12_isIn
set_option maxRecDepth 100000 in
theorem ggX12_front_X12_laysFront : GoodIn wsX12_front wsX12_laysFront := goodIn_hd (goodIn_c zc_wsX12_front_in [(1, 17)] rfl (by decide +kernel)) (goodIn_app (goodIn_app (goodIn_c zc_wsX12_front_in [(0, 2), (1, 18), (0, 4), (0, 3), (0, 5), (1, 19), (1, 20), (1, 21), (0, 9), (1, 22), (1, 2), (1, 23), (2, 0), (2, 1), (2, 2), (2, 3), (1, 8), (2, 4), (2, 5), (2, 6), (2, 7), (0, 16), (2, 8), (2, 9)] rfl (by decide +kernel)) (goodIn_app (goodIn_c zc_wsX12_front_in [(2, 10), (2, 11), (2, 12), (2, 13), (1, 7), (2, 14), (2, 15), (2, 16), (2, 17), (2, 18), (2, 19), (2, 20), (0, 11), (2, 21), (2, 22), (2, 23), (3, 0), (3, 1), (1, 0), (3, 2), (3, 3), (3, 4), (3, 5), (3, 6)] rfl (by decide +kernel)) (goodIn_app (goodIn_c zc_wsX12_front_in [(3, 7), (3, 8), (3, 9), (3, 10), (3, 11), (3, 12), (3, 13), (3, 14), (3, 15), (3, 16), (3, 17), (3, 18), (3, 19), (3, 20), (3, 21), (3, 22), (0, 0), (3, 23), (4, 0), (4, 1), (4, 2), (4, 3), (4, 4), (4, 5)] rfl (by decide +kernel)) (goodIn_app (goodIn_c zc_wsX12_front_in [(4, 6), (4, 7), (4, 8), (4, 9), (4, 10), (4, 11), (4, 12), (4, 13), (4, 14), (4, 15), (4, 16), (4, 17), (4, 18), (4, 19), (4, 20), (4, 21), (4, 22), (4, 23), (5, 0), (5, 1), (5, 2), (5, 3), (5, 4), (5, 5)] rfl (by decide +kernel)) (goodIn_c zc_wsX12_front_in [(5, 6), (5, 7), (5, 8), (5, 9), (5, 10), (5, 11), (5, 12), (5, 13), (5, 14), (5, 15), (5, 16), (5, 17), (5, 18), (5, 19)] rfl (by decide +kernel)))))) (goodIn_sub zB_X12_front_X120 zgw_X120))
set_option maxRecDepth 100000 in
theorem gX12_front_X12_laysFront : GoodIn wsX12_front (wsV RX12 505 RX12 yX12_laysFront wsX12_laysFront) := goodIn_app (goodIn_r _ [39, 40, 41, 10] rfl (by decide +kernel)) ggX12_front_X12_laysFront
noncomputable def zc_wsX12_least : List (List Cond) := [wsX12_least_r1, wsX12_least_r2, wsX12_least_r3, wsX12_least_r4, wsX12_least_r5, wsX12_least_r6, wsX120]
set_option maxRecDepth 20000 in
theorem zc_wsX12_least_in : ∀ l ∈ zc_wsX12_least, ∀ w ∈ l, w ∈ wsX12_least := by
  intro l hl
  unfold zc_wsX12_least at hl
  rcases List.mem_cons.mp hl with e | hl
  · rw [e]
    exact fun w h => List.mem_cons_of_mem _ (List.mem_append_left _ (List.mem_append_left _ h))
  rcases List.mem_cons.mp hl with e | hl
  · rw [e]
    exact fun w h => List.mem_cons_of_mem _ (List.mem_append_left _ (List.mem_append_right _ (List.mem_append_left _ h)))
  rcases List.mem_cons.mp hl with e | hl
  · rw [e]
    exact fun w h => List.mem_cons_of_mem _ (List.mem_append_left _ (List.mem_append_right _ (List.mem_append_right _ (List.mem_append_left _ h))))
  rcases List.mem_cons.mp hl with e | hl
  · rw [e]
    exact fun w h => List.mem_cons_of_mem _ (List.mem_append_left _ (List.mem_append_right _ (List.mem_append_right _ (List.mem_append_right _ (List.mem_append_left _ h)))))
  rcases List.mem_cons.mp hl with e | hl
  · rw [e]
    exact fun w h => List.mem_cons_of_mem _ (List.mem_append_left _ (List.mem_append_right _ (List.mem_append_right _ (List.mem_append_right _ (List.mem_append_right _ (List.mem_append_left _ h))))))
  rcases List.mem_cons.mp hl with e | hl
  · rw [e]
    exact fun w h => List.mem_cons_of_mem _ (List.mem_append_left _ (List.mem_append_right _ (List.mem_append_right _ (List.mem_append_right _ (List.mem_append_right _ (List.mem_append_right _ h))))))
  rcases List.mem_cons.mp hl with e | hl
  · rw [e]
    exact fun w h => List.mem_cons_of_mem _ (List.mem_append_right _ h)
  cases hl
theorem zB_X12_least_X120 : ∀ w ∈ wsX120, w ∈ wsX12_least := fun _ h => List.mem_cons_of_mem _ (List.mem_append_right _ h)
set_option maxRecDepth 100000 in
theorem ggX12_least_X12_isAnswer : GoodIn wsX12_least wsX12_isAnswer := goodIn_hd (goodIn_c zc_wsX12_least_in [(0, 6)] rfl (by decide +kernel)) (goodIn_app (goodIn_c zc_wsX12_least_in [(0, 7), (0, 8), (0, 9), (0, 10), (0, 5), (0, 11), (0, 12), (0, 13), (0, 14), (0, 15)] rfl (by decide +kernel)) (goodIn_sub zB_X12_least_X120 zgw_X120))
set_option maxRecDepth 100000 in
theorem gX12_least_X12_isAnswer : GoodIn wsX12_least (wsV RX12 455 RX12 yX12_isAnswer wsX12_isAnswer) := goodIn_app (goodIn_r _ [3, 4, 5, 6] rfl (by decide +kernel)) ggX12_least_X12_isAnswer
set_option maxRecDepth 100000 in
theorem ggX12_least_X12_canSearch : GoodIn wsX12_least wsX12_canSearch := goodIn_hd (goodIn_c zc_wsX12_least_in [(0, 19)] rfl (by decide +kernel)) (goodIn_app (goodIn_c zc_wsX12_least_in [(0, 20), (0, 12), (0, 21), (0, 22), (0, 23), (1, 0), (1, 1), (0, 5), (1, 2), (1, 3), (1, 4), (1, 5), (1, 6), (1, 7), (1, 8), (1, 9)] rfl (by decide +kernel)) (goodIn_sub zB_X12_least_X120 zgw_X120))
set_option maxRecDepth 100000 in
theorem gX12_least_X12_canSearch : GoodIn wsX12_least (wsV RX12 471 RX12 yX12_canSearch wsX12_canSearch) := goodIn_app (goodIn_r _ [17, 18, 19, 6] rfl (by decide +kernel)) ggX12_least_X12_canSearch
set_option maxRecDepth 100000 in
theorem ggX12_least_X12_allChoices : GoodIn wsX12_least wsX12_allChoices := goodIn_hd (goodIn_c zc_wsX12_least_in [(1, 13)] rfl (by decide +kernel)) (goodIn_app (goodIn_c zc_wsX12_least_in [(0, 22), (1, 14)] rfl (by decide +kernel)) (goodIn_sub zB_X12_least_X120 zgw_X120))
set_option maxRecDepth 100000 in
theorem gX12_least_X12_allChoices : GoodIn wsX12_least (wsV RX12 465 RX12 yX12_allChoices wsX12_allChoices) := goodIn_app (goodIn_r _ [35, 36, 37, 6] rfl (by decide +kernel)) ggX12_least_X12_allChoices
set_option maxRecDepth 100000 in
theorem ggX12_least_X12_triesChoice : GoodIn wsX12_least wsX12_triesChoice := goodIn_hd (goodIn_c zc_wsX12_least_in [(1, 18)] rfl (by decide +kernel)) (goodIn_app (goodIn_c zc_wsX12_least_in [(0, 22), (1, 4), (1, 14), (1, 19), (1, 20), (1, 21), (0, 5), (1, 22), (0, 12), (1, 23), (2, 0), (2, 1), (2, 2), (2, 3), (2, 4), (1, 3)] rfl (by decide +kernel)) (goodIn_sub zB_X12_least_X120 zgw_X120))
set_option maxRecDepth 100000 in
theorem gX12_least_X12_triesChoice : GoodIn wsX12_least (wsV RX12 468 RX12 yX12_triesChoice wsX12_triesChoice) := goodIn_app (goodIn_r _ [40, 41, 42, 6] rfl (by decide +kernel)) ggX12_least_X12_triesChoice
set_option maxRecDepth 100000 in
theorem ggX12_least_X12_costTried : GoodIn wsX12_least wsX12_costTried := goodIn_hd (goodIn_c zc_wsX12_least_in [(2, 8)] rfl (by decide +kernel)) (goodIn_app (goodIn_c zc_wsX12_least_in [(2, 9), (0, 12), (2, 10), (1, 23), (2, 11), (2, 12), (2, 13), (0, 5), (2, 14), (2, 15), (2, 16), (2, 17), (2, 18), (2, 19), (2, 20)] rfl (by decide +kernel)) (goodIn_sub zB_X12_least_X120 zgw_X120))
set_option maxRecDepth 100000 in
theorem gX12_least_X12_costTried : GoodIn wsX12_least (wsV RX12 449 RX12 yX12_costTried wsX12_costTried) := goodIn_app (goodIn_r _ [54, 55, 56, 6] rfl (by decide +kernel)) ggX12_least_X12_costTried
set_option maxRecDepth 100000 in
theorem ggX12_least_X12_passes : GoodIn wsX12_least wsX12_passes := goodIn_hd (goodIn_c zc_wsX12_least_in [(3, 0)] rfl (by decide +kernel)) (goodIn_app (goodIn_app (goodIn_c zc_wsX12_least_in [(3, 1), (3, 2), (0, 12), (0, 1), (3, 3), (1, 23), (0, 7), (3, 4), (3, 5), (3, 6), (0, 5), (3, 7), (3, 8), (0, 20), (3, 9), (3, 10), (3, 11), (3, 12), (3, 13), (3, 14), (3, 15), (3, 16), (3, 17), (2, 16)] rfl (by decide +kernel)) (goodIn_app (goodIn_c zc_wsX12_least_in [(2, 15), (3, 18), (3, 19), (3, 20), (3, 21), (3, 22), (3, 23), (4, 0), (4, 1), (4, 2), (4, 3), (4, 4), (4, 5), (4, 6), (4, 7), (4, 8), (4, 9), (4, 10), (4, 11), (4, 12), (4, 13), (4, 14), (4, 15), (4, 16)] rfl (by decide +kernel)) (goodIn_c zc_wsX12_least_in [(4, 17), (4, 18), (4, 19), (4, 20), (4, 21), (4, 22), (4, 23), (5, 0), (5, 1), (5, 2), (5, 3), (5, 4), (5, 5), (5, 6), (5, 7)] rfl (by decide +kernel)))) (goodIn_sub zB_X12_least_X120 zgw_X120))
set_option maxRecDepth 100000 in
theorem gX12_least_X12_passes : GoodIn wsX12_least (wsV RX12 443 RX12 yX12_passes wsX12_passes) := goodIn_app (goodIn_r _ [70, 71, 72, 6] rfl (by decide +kernel)) ggX12_least_X12_passes
set_option maxRecDepth 100000 in
theorem ggX12_least_X12_lesser : GoodIn wsX12_least wsX12_lesser := goodIn_r _ [109] rfl (by decide +kernel)
set_option maxRecDepth 100000 in
theorem gX12_least_X12_lesser : GoodIn wsX12_least (va_wsS RX12 322 yX12_lesser wsX12_lesser) := goodIn_app (goodIn_r _ [107, 108, 6] rfl (by decide +kernel)) ggX12_least_X12_lesser
noncomputable def zc_wsX12_certificate : List (List Cond) := [wsX12_certificate_r1, wsX12_certificate_r2, wsX12_certificate_r3, wsX12_certificate_r4, wsX120]
set_option maxRecDepth 20000 in
theorem zc_wsX12_certificate_in : ∀ l ∈ zc_wsX12_certificate, ∀ w ∈ l, w ∈ wsX12_certificate := by
  intro l hl
  unfold zc_wsX12_certificate at hl
  rcases List.mem_cons.mp hl with e | hl
  · rw [e]
    exact fun w h => List.mem_cons_of_mem _ (List.mem_append_left _ (List.mem_append_left _ h))
  rcases List.mem_cons.mp hl with e | hl
  · rw [e]
    exact fun w h => List.mem_cons_of_mem _ (List.mem_append_left _ (List.mem_append_right _ (List.mem_append_left _ h)))
  rcases List.mem_cons.mp hl with e | hl
  · rw [e]
    exact fun w h => List.mem_cons_of_mem _ (List.mem_append_left _ (List.mem_append_right _ (List.mem_append_right _ (List.mem_append_left _ h))))
  rcases List.mem_cons.mp hl with e | hl
  · rw [e]
    exact fun w h => List.mem_cons_of_mem _ (List.mem_append_left _ (List.mem_append_right _ (List.mem_append_right _ (List.mem_append_right _ h))))
  rcases List.mem_cons.mp hl with e | hl
  · rw [e]
    exact fun w h => List.mem_cons_of_mem _ (List.mem_append_right _ h)
  cases hl
theorem zB_X12_certificate_X120 : ∀ w ∈ wsX120, w ∈ wsX12_certificate := fun _ h => List.mem_cons_of_mem _ (List.mem_append_right _ h)
set_option maxRecDepth 100000 in
theorem ggX12_certificate_X12_handPasses : GoodIn wsX12_certificate wsX12_handPasses := goodIn_hd (goodIn_c zc_wsX12_certificate_in [(0, 9)] rfl (by decide +kernel)) (goodIn_app (goodIn_app (goodIn_c zc_wsX12_certificate_in [(0, 10), (0, 11), (0, 0), (0, 12), (0, 13), (0, 14), (0, 8), (0, 15), (0, 16), (0, 1), (0, 17), (0, 18), (0, 19), (0, 20), (0, 21), (0, 22), (0, 4), (0, 23), (1, 0), (1, 1), (1, 2), (1, 3), (1, 4), (1, 5)] rfl (by decide +kernel)) (goodIn_app (goodIn_c zc_wsX12_certificate_in [(1, 6), (0, 2), (1, 7), (0, 3), (1, 8), (1, 9), (1, 10), (1, 11), (1, 12), (1, 13), (1, 14), (1, 15), (1, 16), (1, 17), (1, 18), (1, 19), (1, 20), (1, 21), (1, 22), (1, 23), (2, 0), (2, 1), (2, 2), (2, 3)] rfl (by decide +kernel)) (goodIn_app (goodIn_c zc_wsX12_certificate_in [(2, 4), (2, 5), (2, 6), (2, 7), (2, 8), (2, 9), (2, 10), (2, 11), (2, 12), (2, 13), (2, 14), (2, 15), (2, 16), (2, 17), (2, 18), (2, 19), (2, 20), (2, 21), (2, 22), (2, 23), (3, 0), (3, 1), (3, 2), (3, 3)] rfl (by decide +kernel)) (goodIn_c zc_wsX12_certificate_in [(3, 4)] rfl (by decide +kernel))))) (goodIn_sub zB_X12_certificate_X120 zgw_X120))
set_option maxRecDepth 100000 in
theorem gX12_certificate_X12_handPasses : GoodIn wsX12_certificate (wsV RX12 452 RX12 yX12_handPasses wsX12_handPasses) := goodIn_app (goodIn_r _ [6, 7, 8, 9] rfl (by decide +kernel)) ggX12_certificate_X12_handPasses
set_option maxRecDepth 100000 in
theorem ggX12_certificate_X12_isIn : GoodIn wsX12_certificate wsX12_isIn := goodIn_r _ [80] rfl (by decide +kernel)
set_option maxRecDepth 100000 in
theorem gX12_certificate_X12_isIn : GoodIn wsX12_certificate (va_wsS RX12 263 yX12_isIn wsX12_isIn) := goodIn_app (goodIn_r _ [78, 79, 9] rfl (by decide +kernel)) ggX12_certificate_X12_isIn
set_option maxRecDepth 100000 in
theorem ggX12_certificate_X12_byteOf : GoodIn wsX12_certificate wsX12_byteOf := goodIn_r _ [83, 84] rfl (by decide +kernel)
set_option maxRecDepth 100000 in
theorem gX12_certificate_X12_byteOf : GoodIn wsX12_certificate (va_wsS RX12 510 yX12_byteOf wsX12_byteOf) := goodIn_app (goodIn_r _ [81, 82, 9] rfl (by decide +kernel)) ggX12_certificate_X12_byteOf
theorem zB_X12_isFormatSaid_X120 : ∀ w ∈ wsX120, w ∈ wsX12_isFormatSaid := fun _ h => List.mem_cons_of_mem _ (List.mem_append_right _ h)
set_option maxRecDepth 100000 in
theorem ggX12_isFormatSaid_X12_isFormat : GoodIn wsX12_isFormatSaid wsX12_isFormat := goodIn_hd (goodIn_r _ [9] rfl (by decide +kernel)) (goodIn_app (goodIn_r _ [10, 11, 12, 8, 13] rfl (by decide +kernel)) (goodIn_sub zB_X12_isFormatSaid_X120 zgw_X120))
set_option maxRecDepth 100000 in
theorem gX12_isFormatSaid_X12_isFormat : GoodIn wsX12_isFormatSaid (wsV RX12 370 RX12 yX12_isFormat wsX12_isFormat) := goodIn_app (goodIn_r _ [5, 6, 7, 8] rfl (by decide +kernel)) ggX12_isFormatSaid_X12_isFormat
noncomputable def zc_wsX12_breaks : List (List Cond) := [wsX12_breaks_r1, wsX12_breaks_r2, wsX12_breaks_r3, wsX12_breaks_r4, wsX120]
set_option maxRecDepth 20000 in
theorem zc_wsX12_breaks_in : ∀ l ∈ zc_wsX12_breaks, ∀ w ∈ l, w ∈ wsX12_breaks := by
  intro l hl
  unfold zc_wsX12_breaks at hl
  rcases List.mem_cons.mp hl with e | hl
  · rw [e]
    exact fun w h => List.mem_cons_of_mem _ (List.mem_append_left _ (List.mem_append_left _ h))
  rcases List.mem_cons.mp hl with e | hl
  · rw [e]
    exact fun w h => List.mem_cons_of_mem _ (List.mem_append_left _ (List.mem_append_right _ (List.mem_append_left _ h)))
  rcases List.mem_cons.mp hl with e | hl
  · rw [e]
    exact fun w h => List.mem_cons_of_mem _ (List.mem_append_left _ (List.mem_append_right _ (List.mem_append_right _ (List.mem_append_left _ h))))
  rcases List.mem_cons.mp hl with e | hl
  · rw [e]
    exact fun w h => List.mem_cons_of_mem _ (List.mem_append_left _ (List.mem_append_right _ (List.mem_append_right _ (List.mem_append_right _ h))))
  rcases List.mem_cons.mp hl with e | hl
  · rw [e]
    exact fun w h => List.mem_cons_of_mem _ (List.mem_append_right _ h)
  cases hl
theorem zB_X12_breaks_X120 : ∀ w ∈ wsX120, w ∈ wsX12_breaks := fun _ h => List.mem_cons_of_mem _ (List.mem_append_right _ h)
set_option maxRecDepth 100000 in
theorem ggX12_breaks_X12_isFormatSaid : GoodIn wsX12_breaks wsX12_isFormatSaid := goodIn_hd (goodIn_c zc_wsX12_breaks_in [(0, 14)] rfl (by decide +kernel)) (goodIn_app (goodIn_c zc_wsX12_breaks_in [(0, 1), (0, 15), (0, 16), (0, 17), (0, 18), (0, 19), (0, 20), (0, 13), (0, 21), (0, 22), (0, 23), (1, 0), (1, 1)] rfl (by decide +kernel)) (goodIn_sub zB_X12_breaks_X120 zgw_X120))
set_option maxRecDepth 100000 in
theorem gX12_breaks_X12_isFormatSaid : GoodIn wsX12_breaks (wsV RX12 518 RX12 yX12_isFormatSaid wsX12_isFormatSaid) := goodIn_app (goodIn_r _ [11, 12, 13, 14] rfl (by decide +kernel)) ggX12_breaks_X12_isFormatSaid
set_option maxRecDepth 100000 in
theorem ggX12_breaks_X12_laysRange : GoodIn wsX12_breaks wsX12_laysRange := goodIn_hd (goodIn_c zc_wsX12_breaks_in [(1, 5)] rfl (by decide +kernel)) (goodIn_app (goodIn_app (goodIn_c zc_wsX12_breaks_in [(1, 6), (1, 7), (1, 8), (0, 3), (1, 9), (0, 5), (1, 10), (1, 11), (1, 12), (1, 13), (0, 13), (1, 14), (1, 15), (1, 16), (1, 17), (1, 18), (1, 19), (1, 20), (1, 21), (1, 22), (1, 23), (2, 0), (2, 1), (2, 2)] rfl (by decide +kernel)) (goodIn_c zc_wsX12_breaks_in [(2, 3), (2, 4), (2, 5), (2, 6), (2, 7), (2, 8), (2, 9), (2, 10), (2, 11), (2, 12), (2, 13), (2, 14)] rfl (by decide +kernel))) (goodIn_sub zB_X12_breaks_X120 zgw_X120))
set_option maxRecDepth 100000 in
theorem gX12_breaks_X12_laysRange : GoodIn wsX12_breaks (wsV RX12 417 RX12 yX12_laysRange wsX12_laysRange) := goodIn_app (goodIn_r _ [27, 28, 29, 14] rfl (by decide +kernel)) ggX12_breaks_X12_laysRange
set_option maxRecDepth 100000 in
theorem ggX12_breaks_X12_laysError : GoodIn wsX12_breaks wsX12_laysError := goodIn_hd (goodIn_c zc_wsX12_breaks_in [(2, 18)] rfl (by decide +kernel)) (goodIn_app (goodIn_app (goodIn_c zc_wsX12_breaks_in [(2, 19), (0, 0), (2, 3), (1, 6), (0, 7), (2, 4), (2, 20), (2, 21), (2, 22), (0, 13), (2, 23), (1, 15), (1, 16), (1, 10), (1, 9), (1, 11), (1, 12), (1, 13), (1, 14), (0, 3), (3, 0), (3, 1), (3, 2), (1, 17)] rfl (by decide +kernel)) (goodIn_c zc_wsX12_breaks_in [(1, 18), (1, 19), (1, 20), (0, 5), (2, 12), (2, 13), (2, 14), (2, 6), (2, 7), (2, 8)] rfl (by decide +kernel))) (goodIn_sub zB_X12_breaks_X120 zgw_X120))
set_option maxRecDepth 100000 in
theorem gX12_breaks_X12_laysError : GoodIn wsX12_breaks (wsV RX12 430 RX12 yX12_laysError wsX12_laysError) := goodIn_app (goodIn_r _ [64, 65, 66, 14] rfl (by decide +kernel)) ggX12_breaks_X12_laysError
set_option maxRecDepth 100000 in
theorem ggX12_breaks_X12_mostOf : GoodIn wsX12_breaks wsX12_mostOf := goodIn_hd (goodIn_c zc_wsX12_breaks_in [(3, 6)] rfl (by decide +kernel)) (goodIn_app (goodIn_c zc_wsX12_breaks_in [(0, 3), (0, 5), (3, 0), (3, 1), (0, 13), (3, 2), (2, 12), (2, 13), (2, 14)] rfl (by decide +kernel)) (goodIn_sub zB_X12_breaks_X120 zgw_X120))
set_option maxRecDepth 100000 in
theorem gX12_breaks_X12_mostOf : GoodIn wsX12_breaks (wsV RX12 420 RX12 yX12_mostOf wsX12_mostOf) := goodIn_app (goodIn_r _ [76, 77, 78, 14] rfl (by decide +kernel)) ggX12_breaks_X12_mostOf
noncomputable def zc_wsX12_check : List (List Cond) := [wsX12_check_r1, wsX12_check_r2, wsX12_check_r3, wsX12_check_r4, wsX12_check_r5, wsX120]
set_option maxRecDepth 20000 in
theorem zc_wsX12_check_in : ∀ l ∈ zc_wsX12_check, ∀ w ∈ l, w ∈ wsX12_check := by
  intro l hl
  unfold zc_wsX12_check at hl
  rcases List.mem_cons.mp hl with e | hl
  · rw [e]
    exact fun w h => List.mem_cons_of_mem _ (List.mem_append_left _ (List.mem_append_left _ h))
  rcases List.mem_cons.mp hl with e | hl
  · rw [e]
    exact fun w h => List.mem_cons_of_mem _ (List.mem_append_left _ (List.mem_append_right _ (List.mem_append_left _ h)))
  rcases List.mem_cons.mp hl with e | hl
  · rw [e]
    exact fun w h => List.mem_cons_of_mem _ (List.mem_append_left _ (List.mem_append_right _ (List.mem_append_right _ (List.mem_append_left _ h))))
  rcases List.mem_cons.mp hl with e | hl
  · rw [e]
    exact fun w h => List.mem_cons_of_mem _ (List.mem_append_left _ (List.mem_append_right _ (List.mem_append_right _ (List.mem_append_right _ (List.mem_append_left _ h)))))
  rcases List.mem_cons.mp hl with e | hl
  · rw [e]
    exact fun w h => List.mem_cons_of_mem _ (List.mem_append_left _ (List.mem_append_right _ (List.mem_append_right _ (List.mem_append_right _ (List.mem_append_right _ h)))))
  rcases List.mem_cons.mp hl with e | hl
  · rw [e]
    exact fun w h => List.mem_cons_of_mem _ (List.mem_append_right _ h)
  cases hl
theorem zB_X12_check_X120 : ∀ w ∈ wsX120, w ∈ wsX12_check := fun _ h => List.mem_cons_of_mem _ (List.mem_append_right _ h)
set_option maxRecDepth 100000 in
theorem ggX12_check_X12_isRefused : GoodIn wsX12_check wsX12_isRefused := goodIn_hd (goodIn_c zc_wsX12_check_in [(0, 14)] rfl (by decide +kernel)) (goodIn_app (goodIn_c zc_wsX12_check_in [(0, 15)] rfl (by decide +kernel)) (goodIn_sub zB_X12_check_X120 zgw_X120))
set_option maxRecDepth 100000 in
theorem gX12_check_X12_isRefused : GoodIn wsX12_check (wsV RX12 224 RX12 yX12_isRefused wsX12_isRefused) := goodIn_app (goodIn_r _ [11, 12, 13, 14] rfl (by decide +kernel)) ggX12_check_X12_isRefused
set_option maxRecDepth 100000 in
theorem ggX12_check_X12_readsLong : GoodIn wsX12_check wsX12_readsLong := goodIn_hd (goodIn_c zc_wsX12_check_in [(0, 19)] rfl (by decide +kernel)) (goodIn_app (goodIn_c zc_wsX12_check_in [(0, 6), (0, 20), (0, 21)] rfl (by decide +kernel)) (goodIn_sub zB_X12_check_X120 zgw_X120))
set_option maxRecDepth 100000 in
theorem gX12_check_X12_readsLong : GoodIn wsX12_check (wsV RX12 521 RX12 yX12_readsLong wsX12_readsLong) := goodIn_app (goodIn_r _ [17, 18, 19, 14] rfl (by decide +kernel)) ggX12_check_X12_readsLong
set_option maxRecDepth 100000 in
theorem ggX12_check_X12_breaks : GoodIn wsX12_check wsX12_breaks := goodIn_hd (goodIn_c zc_wsX12_check_in [(1, 1)] rfl (by decide +kernel)) (goodIn_app (goodIn_app (goodIn_c zc_wsX12_check_in [(1, 2), (0, 5), (0, 7), (1, 3), (0, 8), (1, 4), (0, 9), (1, 5), (1, 6), (1, 7), (1, 8), (1, 9), (1, 10), (0, 13), (1, 11), (0, 3), (1, 12), (1, 13), (1, 14), (1, 15), (1, 16), (1, 17), (1, 18), (1, 19)] rfl (by decide +kernel)) (goodIn_app (goodIn_c zc_wsX12_check_in [(1, 20), (1, 21), (1, 22), (1, 23), (2, 0), (2, 1), (2, 2), (0, 4), (2, 3), (2, 4), (2, 5), (2, 6), (2, 7), (2, 8), (2, 9), (2, 10), (2, 11), (2, 12), (2, 13), (2, 14), (2, 15), (2, 16), (2, 17), (2, 18)] rfl (by decide +kernel)) (goodIn_app (goodIn_c zc_wsX12_check_in [(2, 19), (2, 20), (2, 21), (2, 22), (2, 23), (3, 0), (3, 1), (3, 2), (3, 3), (3, 4), (3, 5), (3, 6), (3, 7), (3, 8), (3, 9), (3, 10), (3, 11), (3, 12), (3, 13), (3, 14), (3, 15), (3, 16), (3, 17), (3, 18)] rfl (by decide +kernel)) (goodIn_c zc_wsX12_check_in [(3, 19), (3, 20), (3, 21), (3, 22), (3, 23), (4, 0), (4, 1)] rfl (by decide +kernel))))) (goodIn_sub zB_X12_check_X120 zgw_X120))
set_option maxRecDepth 100000 in
theorem gX12_check_X12_breaks : GoodIn wsX12_check (wsV RX12 524 RX12 yX12_breaks wsX12_breaks) := goodIn_app (goodIn_r _ [23, 24, 25, 14] rfl (by decide +kernel)) ggX12_check_X12_breaks
set_option maxRecDepth 100000 in
theorem ggX12_castOf_X12_rounded : GoodIn wsX12_castOf wsX12_rounded := goodIn_r _ [11, 12, 13, 14, 10, 15] rfl (by decide +kernel)
set_option maxRecDepth 100000 in
theorem gX12_castOf_X12_rounded : GoodIn wsX12_castOf (va_wsS RX12 533 yX12_rounded wsX12_rounded) := goodIn_app (goodIn_r _ [8, 9, 10] rfl (by decide +kernel)) ggX12_castOf_X12_rounded
noncomputable def zc_wsX12_triesOnce : List (List Cond) := [wsX12_triesOnce_r1, wsX12_triesOnce_r2, wsX120]
set_option maxRecDepth 20000 in
theorem zc_wsX12_triesOnce_in : ∀ l ∈ zc_wsX12_triesOnce, ∀ w ∈ l, w ∈ wsX12_triesOnce := by
  intro l hl
  unfold zc_wsX12_triesOnce at hl
  rcases List.mem_cons.mp hl with e | hl
  · rw [e]
    exact fun w h => List.mem_cons_of_mem _ (List.mem_append_left _ (List.mem_append_left _ h))
  rcases List.mem_cons.mp hl with e | hl
  · rw [e]
    exact fun w h => List.mem_cons_of_mem _ (List.mem_append_left _ (List.mem_append_right _ h))
  rcases List.mem_cons.mp hl with e | hl
  · rw [e]
    exact fun w h => List.mem_cons_of_mem _ (List.mem_append_right _ h)
  cases hl
theorem zB_X12_triesOnce_X120 : ∀ w ∈ wsX120, w ∈ wsX12_triesOnce := fun _ h => List.mem_cons_of_mem _ (List.mem_append_right _ h)
set_option maxRecDepth 100000 in
theorem ggX12_triesOnce_X12_draw : GoodIn wsX12_triesOnce wsX12_draw := goodIn_hd (goodIn_c zc_wsX12_triesOnce_in [(0, 12)] rfl (by decide +kernel)) (goodIn_app (goodIn_c zc_wsX12_triesOnce_in [(0, 13), (0, 14), (0, 15), (0, 16)] rfl (by decide +kernel)) (goodIn_sub zB_X12_triesOnce_X120 zgw_X120))
set_option maxRecDepth 100000 in
theorem gX12_triesOnce_X12_draw : GoodIn wsX12_triesOnce (wsV RX12 536 RX12 yX12_draw wsX12_draw) := goodIn_app (goodIn_r _ [9, 10, 11, 12] rfl (by decide +kernel)) ggX12_triesOnce_X12_draw
set_option maxRecDepth 100000 in
theorem ggX12_triesOnce_X12_rounded : GoodIn wsX12_triesOnce wsX12_rounded := goodIn_r _ [20, 21, 22, 23, 12, 24] rfl (by decide +kernel)
set_option maxRecDepth 100000 in
theorem gX12_triesOnce_X12_rounded : GoodIn wsX12_triesOnce (va_wsS RX12 533 yX12_rounded wsX12_rounded) := goodIn_app (goodIn_r _ [18, 19, 12] rfl (by decide +kernel)) ggX12_triesOnce_X12_rounded
set_option maxRecDepth 100000 in
theorem ggX12_triesOnce_X12_exactOf : GoodIn wsX12_triesOnce wsX12_exactOf := goodIn_hd (goodIn_c zc_wsX12_triesOnce_in [(1, 3)] rfl (by decide +kernel)) (goodIn_app (goodIn_c zc_wsX12_triesOnce_in [(1, 4), (1, 5), (0, 6), (0, 5), (0, 4)] rfl (by decide +kernel)) (goodIn_sub zB_X12_triesOnce_X120 zgw_X120))
set_option maxRecDepth 100000 in
theorem gX12_triesOnce_X12_exactOf : GoodIn wsX12_triesOnce (wsV RX12 539 RX12 yX12_exactOf wsX12_exactOf) := goodIn_app (goodIn_r _ [25, 26, 27, 12] rfl (by decide +kernel)) ggX12_triesOnce_X12_exactOf
set_option maxRecDepth 100000 in
theorem ggX12_triesOnce_X12_two : GoodIn wsX12_triesOnce wsX12_two := goodIn_r _ [33, 34, 35, 12, 36, 21, 37, 38, 22, 23, 24, 39, 40, 41, 42, 43, 44] rfl (by decide +kernel)
set_option maxRecDepth 100000 in
theorem gX12_triesOnce_X12_two : GoodIn wsX12_triesOnce (va_wsS RX12 406 yX12_two wsX12_two) := goodIn_app (goodIn_r _ [31, 32, 12] rfl (by decide +kernel)) ggX12_triesOnce_X12_two
set_option maxRecDepth 100000 in
theorem ggX12_triesOnce_X12_castOf : GoodIn wsX12_triesOnce wsX12_castOf := goodIn_hd (goodIn_c zc_wsX12_triesOnce_in [(1, 23)] rfl (by decide +kernel)) (goodIn_app (goodIn_c zc_wsX12_triesOnce_in [(1, 4), (1, 5), (0, 6), (0, 5), (0, 7), (0, 1), (0, 2), (0, 17), (0, 18), (0, 11), (0, 19), (0, 20), (0, 21), (0, 22), (0, 23)] rfl (by decide +kernel)) (goodIn_sub zB_X12_triesOnce_X120 zgw_X120))
set_option maxRecDepth 100000 in
theorem gX12_triesOnce_X12_castOf : GoodIn wsX12_triesOnce (wsV RX12 542 RX12 yX12_castOf wsX12_castOf) := goodIn_app (goodIn_r _ [45, 46, 47, 12] rfl (by decide +kernel)) ggX12_triesOnce_X12_castOf
set_option maxRecDepth 100000 in
theorem ggX12_trials_X12_isIn : GoodIn wsX12_trials wsX12_isIn := goodIn_r _ [7] rfl (by decide +kernel)
set_option maxRecDepth 100000 in
theorem gX12_trials_X12_isIn : GoodIn wsX12_trials (va_wsS RX12 263 yX12_isIn wsX12_isIn) := goodIn_app (goodIn_r _ [4, 5, 6] rfl (by decide +kernel)) ggX12_trials_X12_isIn
noncomputable def zc_wsX12_trials : List (List Cond) := [wsX12_trials_r1, wsX12_trials_r2, wsX12_trials_r3, wsX12_trials_r4, wsX12_trials_r5, wsX120]
set_option maxRecDepth 20000 in
theorem zc_wsX12_trials_in : ∀ l ∈ zc_wsX12_trials, ∀ w ∈ l, w ∈ wsX12_trials := by
  intro l hl
  unfold zc_wsX12_trials at hl
  rcases List.mem_cons.mp hl with e | hl
  · rw [e]
    exact fun w h => List.mem_cons_of_mem _ (List.mem_append_left _ (List.mem_append_left _ h))
  rcases List.mem_cons.mp hl with e | hl
  · rw [e]
    exact fun w h => List.mem_cons_of_mem _ (List.mem_append_left _ (List.mem_append_right _ (List.mem_append_left _ h)))
  rcases List.mem_cons.mp hl with e | hl
  · rw [e]
    exact fun w h => List.mem_cons_of_mem _ (List.mem_append_left _ (List.mem_append_right _ (List.mem_append_right _ (List.mem_append_left _ h))))
  rcases List.mem_cons.mp hl with e | hl
  · rw [e]
    exact fun w h => List.mem_cons_of_mem _ (List.mem_append_left _ (List.mem_append_right _ (List.mem_append_right _ (List.mem_append_right _ (List.mem_append_left _ h)))))
  rcases List.mem_cons.mp hl with e | hl
  · rw [e]
    exact fun w h => List.mem_cons_of_mem _ (List.mem_append_left _ (List.mem_append_right _ (List.mem_append_right _ (List.mem_append_right _ (List.mem_append_right _ h)))))
  rcases List.mem_cons.mp hl with e | hl
  · rw [e]
    exact fun w h => List.mem_cons_of_mem _ (List.mem_append_right _ h)
  cases hl
theorem zB_X12_trials_X120 : ∀ w ∈ wsX120, w ∈ wsX12_trials := fun _ h => List.mem_cons_of_mem _ (List.mem_append_right _ h)
set_option maxRecDepth 100000 in
theorem ggX12_trials_X12_isNumber : GoodIn wsX12_trials wsX12_isNumber := goodIn_hd (goodIn_c zc_wsX12_trials_in [(0, 10)] rfl (by decide +kernel)) (goodIn_app (goodIn_c zc_wsX12_trials_in [(0, 11), (0, 3), (0, 4), (0, 5), (0, 6)] rfl (by decide +kernel)) (goodIn_sub zB_X12_trials_X120 zgw_X120))
set_option maxRecDepth 100000 in
theorem gX12_trials_X12_isNumber : GoodIn wsX12_trials (wsV RX12 373 RX12 yX12_isNumber wsX12_isNumber) := goodIn_app (goodIn_r _ [8, 9, 10, 6] rfl (by decide +kernel)) ggX12_trials_X12_isNumber
set_option maxRecDepth 100000 in
theorem ggX12_trials_X12_handPasses : GoodIn wsX12_trials wsX12_handPasses := goodIn_hd (goodIn_c zc_wsX12_trials_in [(0, 15)] rfl (by decide +kernel)) (goodIn_app (goodIn_app (goodIn_c zc_wsX12_trials_in [(0, 16), (0, 17), (0, 11), (0, 18), (0, 19), (0, 20), (0, 5), (0, 21), (0, 22), (0, 23), (1, 0), (1, 1), (1, 2), (1, 3), (1, 4), (1, 5), (1, 6), (1, 7), (1, 8), (1, 9), (1, 10), (1, 11), (1, 12), (1, 13)] rfl (by decide +kernel)) (goodIn_app (goodIn_c zc_wsX12_trials_in [(1, 14), (1, 15), (1, 16), (1, 17), (1, 18), (1, 19), (1, 20), (1, 21), (1, 22), (1, 23), (2, 0), (2, 1), (2, 2), (2, 3), (2, 4), (2, 5), (2, 6), (2, 7), (2, 8), (2, 9), (2, 10), (2, 11), (2, 12), (2, 13)] rfl (by decide +kernel)) (goodIn_app (goodIn_c zc_wsX12_trials_in [(2, 14), (2, 15), (2, 16), (2, 17), (2, 18), (2, 19), (2, 20), (2, 21), (2, 22), (2, 23), (3, 0), (3, 1), (3, 2), (3, 3), (3, 4), (3, 5), (3, 6), (3, 7), (3, 8), (3, 9), (3, 10), (3, 11), (3, 12), (3, 13)] rfl (by decide +kernel)) (goodIn_c zc_wsX12_trials_in [(3, 14)] rfl (by decide +kernel))))) (goodIn_sub zB_X12_trials_X120 zgw_X120))
set_option maxRecDepth 100000 in
theorem gX12_trials_X12_handPasses : GoodIn wsX12_trials (wsV RX12 452 RX12 yX12_handPasses wsX12_handPasses) := goodIn_app (goodIn_r _ [13, 14, 15, 6] rfl (by decide +kernel)) ggX12_trials_X12_handPasses
set_option maxRecDepth 100000 in
theorem ggX12_trials_X12_refuses : GoodIn wsX12_trials wsX12_refuses := goodIn_hd (goodIn_c zc_wsX12_trials_in [(3, 18)] rfl (by decide +kernel)) (goodIn_app (goodIn_c zc_wsX12_trials_in [(3, 19)] rfl (by decide +kernel)) (goodIn_sub zB_X12_trials_X120 zgw_X120))
set_option maxRecDepth 100000 in
theorem gX12_trials_X12_refuses : GoodIn wsX12_trials (wsV RX12 216 RX12 yX12_refuses wsX12_refuses) := goodIn_app (goodIn_r _ [88, 89, 90, 6] rfl (by decide +kernel)) ggX12_trials_X12_refuses
set_option maxRecDepth 100000 in
theorem ggX12_trials_X12_triesOnce : GoodIn wsX12_trials wsX12_triesOnce := goodIn_hd (goodIn_c zc_wsX12_trials_in [(3, 23)] rfl (by decide +kernel)) (goodIn_app (goodIn_app (goodIn_c zc_wsX12_trials_in [(0, 11), (3, 3), (0, 23), (1, 13), (0, 2), (1, 16), (1, 18), (0, 1), (4, 0), (4, 1), (4, 2), (0, 5), (4, 3), (4, 4), (4, 5), (4, 6), (4, 7), (4, 8), (4, 9), (4, 10), (2, 11), (2, 14), (2, 15), (2, 16)] rfl (by decide +kernel)) (goodIn_c zc_wsX12_trials_in [(4, 11), (4, 12), (4, 13), (4, 14), (1, 23), (2, 0), (2, 5), (2, 6), (2, 7), (2, 8), (2, 9), (2, 10), (2, 12), (2, 13), (2, 17), (2, 18), (2, 19), (2, 20), (2, 21), (2, 22), (4, 15), (4, 16), (4, 17), (4, 18)] rfl (by decide +kernel))) (goodIn_sub zB_X12_trials_X120 zgw_X120))
set_option maxRecDepth 100000 in
theorem gX12_trials_X12_triesOnce : GoodIn wsX12_trials (wsV RX12 547 RX12 yX12_triesOnce wsX12_triesOnce) := goodIn_app (goodIn_r _ [93, 94, 95, 6] rfl (by decide +kernel)) ggX12_trials_X12_triesOnce
set_option maxRecDepth 100000 in
theorem ggX12_trials_X12_amount : GoodIn wsX12_trials wsX12_amount := goodIn_r _ [83] rfl (by decide +kernel)
set_option maxRecDepth 100000 in
theorem gX12_trials_X12_amount : GoodIn wsX12_trials (va_wsS RX12 410 yX12_amount wsX12_amount) := goodIn_app (goodIn_r _ [81, 82, 6] rfl (by decide +kernel)) ggX12_trials_X12_amount
set_option maxRecDepth 100000 in
theorem ggX12_trials_X12_greater : GoodIn wsX12_trials wsX12_greater := goodIn_r _ [71] rfl (by decide +kernel)
set_option maxRecDepth 100000 in
theorem gX12_trials_X12_greater : GoodIn wsX12_trials (va_wsS RX12 396 yX12_greater wsX12_greater) := goodIn_app (goodIn_r _ [69, 70, 6] rfl (by decide +kernel)) ggX12_trials_X12_greater
noncomputable def zc_wsX12_trial : List (List Cond) := [wsX12_trial_r1, wsX12_trial_r2, wsX12_trial_r3, wsX12_trial_r4, wsX12_trial_r5, wsX120]
set_option maxRecDepth 20000 in
theorem zc_wsX12_trial_in : ∀ l ∈ zc_wsX12_trial, ∀ w ∈ l, w ∈ wsX12_trial := by
  intro l hl
  unfold zc_wsX12_trial at hl
  rcases List.mem_cons.mp hl with e | hl
  · rw [e]
    exact fun w h => List.mem_cons_of_mem _ (List.mem_append_left _ (List.mem_append_left _ h))
  rcases List.mem_cons.mp hl with e | hl
  · rw [e]
    exact fun w h => List.mem_cons_of_mem _ (List.mem_append_left _ (List.mem_append_right _ (List.mem_append_left _ h)))
  rcases List.mem_cons.mp hl with e | hl
  · rw [e]
    exact fun w h => List.mem_cons_of_mem _ (List.mem_append_left _ (List.mem_append_right _ (List.mem_append_right _ (List.mem_append_left _ h))))
  rcases List.mem_cons.mp hl with e | hl
  · rw [e]
    exact fun w h => List.mem_cons_of_mem _ (List.mem_append_left _ (List.mem_append_right _ (List.mem_append_right _ (List.mem_append_right _ (List.mem_append_left _ h)))))
  rcases List.mem_cons.mp hl with e | hl
  · rw [e]
    exact fun w h => List.mem_cons_of_mem _ (List.mem_append_left _ (List.mem_append_right _ (List.mem_append_right _ (List.mem_append_right _ (List.mem_append_right _ h)))))
  rcases List.mem_cons.mp hl with e | hl
  · rw [e]
    exact fun w h => List.mem_cons_of_mem _ (List.mem_append_right _ h)
  cases hl
theorem zB_X12_trial_X120 : ∀ w ∈ wsX120, w ∈ wsX12_trial := fun _ h => List.mem_cons_of_mem _ (List.mem_append_right _ h)
set_option maxRecDepth 100000 in
theorem ggX12_trial_X12_isNumber : GoodIn wsX12_trial wsX12_isNumber := goodIn_hd (goodIn_c zc_wsX12_trial_in [(0, 8)] rfl (by decide +kernel)) (goodIn_app (goodIn_c zc_wsX12_trial_in [(0, 9), (0, 10), (0, 11), (0, 7), (0, 12)] rfl (by decide +kernel)) (goodIn_sub zB_X12_trial_X120 zgw_X120))
set_option maxRecDepth 100000 in
theorem gX12_trial_X12_isNumber : GoodIn wsX12_trial (wsV RX12 373 RX12 yX12_isNumber wsX12_isNumber) := goodIn_app (goodIn_r _ [5, 6, 7, 8] rfl (by decide +kernel)) ggX12_trial_X12_isNumber
set_option maxRecDepth 100000 in
theorem ggX12_trial_X12_handPasses : GoodIn wsX12_trial wsX12_handPasses := goodIn_hd (goodIn_c zc_wsX12_trial_in [(0, 16)] rfl (by decide +kernel)) (goodIn_app (goodIn_app (goodIn_c zc_wsX12_trial_in [(0, 17), (0, 18), (0, 9), (0, 19), (0, 20), (0, 21), (0, 7), (0, 22), (0, 23), (1, 0), (1, 1), (1, 2), (1, 3), (1, 4), (1, 5), (1, 6), (1, 7), (1, 8), (1, 9), (1, 10), (1, 11), (1, 12), (1, 13), (1, 14)] rfl (by decide +kernel)) (goodIn_app (goodIn_c zc_wsX12_trial_in [(1, 15), (1, 16), (1, 17), (1, 18), (1, 19), (1, 20), (1, 21), (1, 22), (1, 23), (2, 0), (2, 1), (2, 2), (2, 3), (2, 4), (2, 5), (2, 6), (2, 7), (2, 8), (2, 9), (2, 10), (2, 11), (2, 12), (2, 13), (2, 14)] rfl (by decide +kernel)) (goodIn_app (goodIn_c zc_wsX12_trial_in [(2, 15), (2, 16), (2, 17), (2, 18), (2, 19), (2, 20), (2, 21), (2, 22), (2, 23), (3, 0), (3, 1), (3, 2), (3, 3), (3, 4), (3, 5), (3, 6), (3, 7), (3, 8), (3, 9), (3, 10), (3, 11), (3, 12), (3, 13), (3, 14)] rfl (by decide +kernel)) (goodIn_c zc_wsX12_trial_in [(3, 15)] rfl (by decide +kernel))))) (goodIn_sub zB_X12_trial_X120 zgw_X120))
set_option maxRecDepth 100000 in
theorem gX12_trial_X12_handPasses : GoodIn wsX12_trial (wsV RX12 452 RX12 yX12_handPasses wsX12_handPasses) := goodIn_app (goodIn_r _ [14, 15, 16, 8] rfl (by decide +kernel)) ggX12_trial_X12_handPasses
set_option maxRecDepth 100000 in
theorem ggX12_trial_X12_triesOnce : GoodIn wsX12_trial wsX12_triesOnce := goodIn_hd (goodIn_c zc_wsX12_trial_in [(3, 19)] rfl (by decide +kernel)) (goodIn_app (goodIn_app (goodIn_c zc_wsX12_trial_in [(0, 9), (3, 4), (1, 0), (1, 14), (0, 3), (1, 17), (1, 19), (0, 2), (3, 20), (3, 21), (3, 22), (0, 7), (3, 23), (4, 0), (0, 1), (4, 1), (4, 2), (4, 3), (4, 4), (4, 5), (2, 12), (2, 15), (2, 16), (2, 17)] rfl (by decide +kernel)) (goodIn_c zc_wsX12_trial_in [(4, 6), (4, 7), (4, 8), (4, 9), (2, 0), (2, 1), (2, 6), (2, 7), (2, 8), (2, 9), (2, 10), (2, 11), (2, 13), (2, 14), (2, 18), (2, 19), (2, 20), (2, 21), (2, 22), (2, 23), (4, 10), (4, 11), (4, 12), (4, 13)] rfl (by decide +kernel))) (goodIn_sub zB_X12_trial_X120 zgw_X120))
set_option maxRecDepth 100000 in
theorem gX12_trial_X12_triesOnce : GoodIn wsX12_trial (wsV RX12 547 RX12 yX12_triesOnce wsX12_triesOnce) := goodIn_app (goodIn_r _ [89, 90, 91, 8] rfl (by decide +kernel)) ggX12_trial_X12_triesOnce
theorem zB_X12_seed_X120 : ∀ w ∈ wsX120, w ∈ wsX12_seed := fun _ h => List.mem_cons_of_mem _ (List.mem_append_right _ h)
set_option maxRecDepth 100000 in
theorem ggX12_seed_X12_isRefused : GoodIn wsX12_seed wsX12_isRefused := goodIn_hd (goodIn_r _ [6] rfl (by decide +kernel)) (goodIn_app (goodIn_r _ [7] rfl (by decide +kernel)) (goodIn_sub zB_X12_seed_X120 zgw_X120))
set_option maxRecDepth 100000 in
theorem gX12_seed_X12_isRefused : GoodIn wsX12_seed (wsV RX12 224 RX12 yX12_isRefused wsX12_isRefused) := goodIn_app (goodIn_r _ [2, 3, 4, 5] rfl (by decide +kernel)) ggX12_seed_X12_isRefused
set_option maxRecDepth 100000 in
theorem ggX12_status_X12_isIn : GoodIn wsX12_status wsX12_isIn := goodIn_r _ [6] rfl (by decide +kernel)
set_option maxRecDepth 100000 in
theorem gX12_status_X12_isIn : GoodIn wsX12_status (va_wsS RX12 263 yX12_isIn wsX12_isIn) := goodIn_app (goodIn_r _ [3, 4, 5] rfl (by decide +kernel)) ggX12_status_X12_isIn
