theorem dX0_init_0 : decode cX0_init 0 = .ok (.aload_n 0, 1) := by decide +kernel
theorem dX0_init_1 : decode cX0_init 1 = .ok (.invokespecial 3, 3) := by decide +kernel
theorem dX0_init_4 : decode cX0_init 4 = .ok (.aload_n 0, 1) := by decide +kernel
theorem dX0_init_5 : decode cX0_init 5 = .ok (.new 9, 3) := by decide +kernel
theorem dX0_init_8 : decode cX0_init 8 = .ok (.dup, 1) := by decide +kernel
theorem dX0_init_9 : decode cX0_init 9 = .ok (.invokespecial 11, 3) := by decide +kernel
theorem dX0_init_12 : decode cX0_init 12 = .ok (.putfield 12, 3) := by decide +kernel
theorem dX0_init_15 : decode cX0_init 15 = .ok (.aload_n 0, 1) := by decide +kernel
theorem dX0_init_16 : decode cX0_init 16 = .ok (.new 18, 3) := by decide +kernel
theorem dX0_init_19 : decode cX0_init 19 = .ok (.dup, 1) := by decide +kernel
theorem dX0_init_20 : decode cX0_init 20 = .ok (.invokespecial 20, 3) := by decide +kernel
theorem dX0_init_23 : decode cX0_init 23 = .ok (.putfield 21, 3) := by decide +kernel
theorem dX0_init_26 : decode cX0_init 26 = .ok (.aload_n 0, 1) := by decide +kernel
theorem dX0_init_27 : decode cX0_init 27 = .ok (.bipush 14, 2) := by decide +kernel
theorem dX0_init_29 : decode cX0_init 29 = .ok (.newarray .int, 2) := by decide +kernel
theorem dX0_init_31 : decode cX0_init 31 = .ok (.putfield 25, 3) := by decide +kernel
theorem dX0_init_34 : decode cX0_init 34 = .ok (.aload_n 0, 1) := by decide +kernel
theorem dX0_init_35 : decode cX0_init 35 = .ok (.iconst (-1), 1) := by decide +kernel
theorem dX0_init_36 : decode cX0_init 36 = .ok (.putfield 29, 3) := by decide +kernel
theorem dX0_init_39 : decode cX0_init 39 = .ok (.aload_n 0, 1) := by decide +kernel
theorem dX0_init_40 : decode cX0_init 40 = .ok (.iconst (-1), 1) := by decide +kernel
theorem dX0_init_41 : decode cX0_init 41 = .ok (.putfield 33, 3) := by decide +kernel
theorem dX0_init_44 : decode cX0_init 44 = .ok (.return_, 1) := by decide +kernel
theorem dX0_forget_0 : decode cX0_forget 0 = .ok (.aload_n 0, 1) := by decide +kernel
theorem dX0_forget_1 : decode cX0_forget 1 = .ok (.iconst (-1), 1) := by decide +kernel
theorem dX0_forget_2 : decode cX0_forget 2 = .ok (.putfield 29, 3) := by decide +kernel
theorem dX0_forget_5 : decode cX0_forget 5 = .ok (.aload_n 0, 1) := by decide +kernel
theorem dX0_forget_6 : decode cX0_forget 6 = .ok (.iconst (-1), 1) := by decide +kernel
theorem dX0_forget_7 : decode cX0_forget 7 = .ok (.putfield 33, 3) := by decide +kernel
theorem dX0_forget_10 : decode cX0_forget 10 = .ok (.return_, 1) := by decide +kernel
theorem dX0_holds_0 : decode cX0_holds 0 = .ok (.aload_n 0, 1) := by decide +kernel
theorem dX0_holds_1 : decode cX0_holds 1 = .ok (.invokevirtual 36, 3) := by decide +kernel
theorem dX0_holds_4 : decode cX0_holds 4 = .ok (.aload_n 3, 1) := by decide +kernel
theorem dX0_holds_5 : decode cX0_holds 5 = .ok (.getfield 39, 3) := by decide +kernel
theorem dX0_holds_8 : decode cX0_holds 8 = .ok (.getfield 45, 3) := by decide +kernel
theorem dX0_holds_11 : decode cX0_holds 11 = .ok (.istore 4, 2) := by decide +kernel
theorem dX0_holds_13 : decode cX0_holds 13 = .ok (.iload 4, 2) := by decide +kernel
theorem dX0_holds_15 : decode cX0_holds 15 = .ok (.ifCond .eq 18, 3) := by decide +kernel
theorem dX0_holds_18 : decode cX0_holds 18 = .ok (.iload_n 2, 1) := by decide +kernel
theorem dX0_holds_19 : decode cX0_holds 19 = .ok (.bipush 25, 2) := by decide +kernel
theorem dX0_holds_21 : decode cX0_holds 21 = .ok (.iload 4, 2) := by decide +kernel
theorem dX0_holds_23 : decode cX0_holds 23 = .ok (.imul, 1) := by decide +kernel
theorem dX0_holds_24 : decode cX0_holds 24 = .ok (.if_icmp .ne 9, 3) := by decide +kernel
theorem dX0_holds_27 : decode cX0_holds 27 = .ok (.iload_n 2, 1) := by decide +kernel
theorem dX0_holds_28 : decode cX0_holds 28 = .ok (.aload_n 1, 1) := by decide +kernel
theorem dX0_holds_29 : decode cX0_holds 29 = .ok (.arraylength, 1) := by decide +kernel
theorem dX0_holds_30 : decode cX0_holds 30 = .ok (.if_icmp .le 5, 3) := by decide +kernel
theorem dX0_holds_33 : decode cX0_holds 33 = .ok (.iconst 0, 1) := by decide +kernel
theorem dX0_holds_34 : decode cX0_holds 34 = .ok (.ireturn, 1) := by decide +kernel
theorem dX0_holds_35 : decode cX0_holds 35 = .ok (.aload_n 3, 1) := by decide +kernel
theorem dX0_holds_36 : decode cX0_holds 36 = .ok (.getfield 50, 3) := by decide +kernel
theorem dX0_holds_39 : decode cX0_holds 39 = .ok (.aload_n 0, 1) := by decide +kernel
theorem dX0_holds_40 : decode cX0_holds 40 = .ok (.getfield 25, 3) := by decide +kernel
theorem dX0_holds_43 : decode cX0_holds 43 = .ok (.iconst (-1), 1) := by decide +kernel
theorem dX0_holds_44 : decode cX0_holds 44 = .ok (.invokevirtual 54, 3) := by decide +kernel
theorem dX0_holds_47 : decode cX0_holds 47 = .ok (.iconst 0, 1) := by decide +kernel
theorem dX0_holds_48 : decode cX0_holds 48 = .ok (.istore 5, 2) := by decide +kernel
theorem dX0_holds_50 : decode cX0_holds 50 = .ok (.iload 5, 2) := by decide +kernel
theorem dX0_holds_52 : decode cX0_holds 52 = .ok (.iload 4, 2) := by decide +kernel
theorem dX0_holds_54 : decode cX0_holds 54 = .ok (.if_icmp .ge 53, 3) := by decide +kernel
theorem dX0_holds_57 : decode cX0_holds 57 = .ok (.iload 5, 2) := by decide +kernel
theorem dX0_holds_59 : decode cX0_holds 59 = .ok (.bipush 25, 2) := by decide +kernel
theorem dX0_holds_61 : decode cX0_holds 61 = .ok (.imul, 1) := by decide +kernel
theorem dX0_holds_62 : decode cX0_holds 62 = .ok (.istore 6, 2) := by decide +kernel
theorem dX0_holds_64 : decode cX0_holds 64 = .ok (.aload_n 0, 1) := by decide +kernel
theorem dX0_holds_65 : decode cX0_holds 65 = .ok (.aload_n 3, 1) := by decide +kernel
theorem dX0_holds_66 : decode cX0_holds 66 = .ok (.iload 5, 2) := by decide +kernel
theorem dX0_holds_68 : decode cX0_holds 68 = .ok (.aload_n 1, 1) := by decide +kernel
theorem dX0_holds_69 : decode cX0_holds 69 = .ok (.iload 6, 2) := by decide +kernel
theorem dX0_holds_71 : decode cX0_holds 71 = .ok (.baload, 1) := by decide +kernel
theorem dX0_holds_72 : decode cX0_holds 72 = .ok (.sipush 255, 3) := by decide +kernel
theorem dX0_holds_75 : decode cX0_holds 75 = .ok (.iand, 1) := by decide +kernel
theorem dX0_holds_76 : decode cX0_holds 76 = .ok (.aload_n 1, 1) := by decide +kernel
theorem dX0_holds_77 : decode cX0_holds 77 = .ok (.invokevirtual 60, 3) := by decide +kernel
theorem dX0_holds_80 : decode cX0_holds 80 = .ok (.istore 7, 2) := by decide +kernel
theorem dX0_holds_82 : decode cX0_holds 82 = .ok (.iload 7, 2) := by decide +kernel
theorem dX0_holds_84 : decode cX0_holds 84 = .ok (.ifCond .eq 17, 3) := by decide +kernel
theorem dX0_holds_87 : decode cX0_holds 87 = .ok (.aload_n 0, 1) := by decide +kernel
theorem dX0_holds_88 : decode cX0_holds 88 = .ok (.iload 5, 2) := by decide +kernel
theorem dX0_holds_90 : decode cX0_holds 90 = .ok (.putfield 29, 3) := by decide +kernel
theorem dX0_holds_93 : decode cX0_holds 93 = .ok (.aload_n 0, 1) := by decide +kernel
theorem dX0_holds_94 : decode cX0_holds 94 = .ok (.iload 7, 2) := by decide +kernel
theorem dX0_holds_96 : decode cX0_holds 96 = .ok (.putfield 33, 3) := by decide +kernel
theorem dX0_holds_99 : decode cX0_holds 99 = .ok (.iconst 0, 1) := by decide +kernel
theorem dX0_holds_100 : decode cX0_holds 100 = .ok (.ireturn, 1) := by decide +kernel
theorem dX0_holds_101 : decode cX0_holds 101 = .ok (.iinc 5 1, 3) := by decide +kernel
theorem dX0_holds_104 : decode cX0_holds 104 = .ok (.goto (-54), 3) := by decide +kernel
theorem dX0_holds_107 : decode cX0_holds 107 = .ok (.aload_n 0, 1) := by decide +kernel
theorem dX0_holds_108 : decode cX0_holds 108 = .ok (.bipush (-2), 2) := by decide +kernel
theorem dX0_holds_110 : decode cX0_holds 110 = .ok (.putfield 29, 3) := by decide +kernel
theorem dX0_holds_113 : decode cX0_holds 113 = .ok (.aload_n 0, 1) := by decide +kernel
theorem dX0_holds_114 : decode cX0_holds 114 = .ok (.iconst 0, 1) := by decide +kernel
theorem dX0_holds_115 : decode cX0_holds 115 = .ok (.putfield 33, 3) := by decide +kernel
theorem dX0_holds_118 : decode cX0_holds 118 = .ok (.iconst 1, 1) := by decide +kernel
theorem dX0_holds_119 : decode cX0_holds 119 = .ok (.ireturn, 1) := by decide +kernel
theorem dX0_whyNot_0 : decode cX0_whyNot 0 = .ok (.aload_n 1, 1) := by decide +kernel
theorem dX0_whyNot_1 : decode cX0_whyNot 1 = .ok (.getfield 50, 3) := by decide +kernel
theorem dX0_whyNot_4 : decode cX0_whyNot 4 = .ok (.getfield 64, 3) := by decide +kernel
theorem dX0_whyNot_7 : decode cX0_whyNot 7 = .ok (.iload_n 2, 1) := by decide +kernel
theorem dX0_whyNot_8 : decode cX0_whyNot 8 = .ok (.iaload, 1) := by decide +kernel
theorem dX0_whyNot_9 : decode cX0_whyNot 9 = .ok (.istore 5, 2) := by decide +kernel
theorem dX0_whyNot_11 : decode cX0_whyNot 11 = .ok (.aload_n 0, 1) := by decide +kernel
theorem dX0_whyNot_12 : decode cX0_whyNot 12 = .ok (.getfield 25, 3) := by decide +kernel
theorem dX0_whyNot_15 : decode cX0_whyNot 15 = .ok (.iload 5, 2) := by decide +kernel
theorem dX0_whyNot_17 : decode cX0_whyNot 17 = .ok (.iaload, 1) := by decide +kernel
theorem dX0_whyNot_18 : decode cX0_whyNot 18 = .ok (.iconst (-1), 1) := by decide +kernel
theorem dX0_whyNot_19 : decode cX0_whyNot 19 = .ok (.if_icmp .eq 14, 3) := by decide +kernel
theorem dX0_whyNot_22 : decode cX0_whyNot 22 = .ok (.aload_n 0, 1) := by decide +kernel
theorem dX0_whyNot_23 : decode cX0_whyNot 23 = .ok (.getfield 25, 3) := by decide +kernel
theorem dX0_whyNot_26 : decode cX0_whyNot 26 = .ok (.iload 5, 2) := by decide +kernel
theorem dX0_whyNot_28 : decode cX0_whyNot 28 = .ok (.iaload, 1) := by decide +kernel
theorem dX0_whyNot_29 : decode cX0_whyNot 29 = .ok (.iload_n 3, 1) := by decide +kernel
theorem dX0_whyNot_30 : decode cX0_whyNot 30 = .ok (.if_icmp .ne 7, 3) := by decide +kernel
theorem dX0_whyNot_33 : decode cX0_whyNot 33 = .ok (.iconst 1, 1) := by decide +kernel
theorem dX0_whyNot_34 : decode cX0_whyNot 34 = .ok (.goto 4, 3) := by decide +kernel
theorem dX0_whyNot_37 : decode cX0_whyNot 37 = .ok (.iconst 0, 1) := by decide +kernel
theorem dX0_whyNot_38 : decode cX0_whyNot 38 = .ok (.istore 6, 2) := by decide +kernel
theorem dX0_whyNot_40 : decode cX0_whyNot 40 = .ok (.aload_n 1, 1) := by decide +kernel
theorem dX0_whyNot_41 : decode cX0_whyNot 41 = .ok (.iload_n 3, 1) := by decide +kernel
theorem dX0_whyNot_42 : decode cX0_whyNot 42 = .ok (.invokevirtual 67, 3) := by decide +kernel
theorem dX0_whyNot_45 : decode cX0_whyNot 45 = .ok (.ifCond .eq 8, 3) := by decide +kernel
theorem dX0_whyNot_48 : decode cX0_whyNot 48 = .ok (.iload 6, 2) := by decide +kernel
theorem dX0_whyNot_50 : decode cX0_whyNot 50 = .ok (.ifCond .ne 5, 3) := by decide +kernel
theorem dX0_whyNot_53 : decode cX0_whyNot 53 = .ok (.iconst 1, 1) := by decide +kernel
theorem dX0_whyNot_54 : decode cX0_whyNot 54 = .ok (.ireturn, 1) := by decide +kernel
theorem dX0_whyNot_55 : decode cX0_whyNot 55 = .ok (.aload_n 0, 1) := by decide +kernel
theorem dX0_whyNot_56 : decode cX0_whyNot 56 = .ok (.getfield 25, 3) := by decide +kernel
theorem dX0_whyNot_59 : decode cX0_whyNot 59 = .ok (.iload 5, 2) := by decide +kernel
theorem dX0_whyNot_61 : decode cX0_whyNot 61 = .ok (.iload_n 3, 1) := by decide +kernel
theorem dX0_whyNot_62 : decode cX0_whyNot 62 = .ok (.iastore, 1) := by decide +kernel
theorem dX0_whyNot_63 : decode cX0_whyNot 63 = .ok (.iload_n 2, 1) := by decide +kernel
theorem dX0_whyNot_64 : decode cX0_whyNot 64 = .ok (.bipush 25, 2) := by decide +kernel
theorem dX0_whyNot_66 : decode cX0_whyNot 66 = .ok (.imul, 1) := by decide +kernel
theorem dX0_whyNot_67 : decode cX0_whyNot 67 = .ok (.istore 7, 2) := by decide +kernel
theorem dX0_whyNot_69 : decode cX0_whyNot 69 = .ok (.aload_n 0, 1) := by decide +kernel
theorem dX0_whyNot_70 : decode cX0_whyNot 70 = .ok (.getfield 12, 3) := by decide +kernel
theorem dX0_whyNot_73 : decode cX0_whyNot 73 = .ok (.getfield 71, 3) := by decide +kernel
theorem dX0_whyNot_76 : decode cX0_whyNot 76 = .ok (.iload_n 2, 1) := by decide +kernel
theorem dX0_whyNot_77 : decode cX0_whyNot 77 = .ok (.aload 4, 2) := by decide +kernel
theorem dX0_whyNot_79 : decode cX0_whyNot 79 = .ok (.iload 7, 2) := by decide +kernel
theorem dX0_whyNot_81 : decode cX0_whyNot 81 = .ok (.iconst 1, 1) := by decide +kernel
theorem dX0_whyNot_82 : decode cX0_whyNot 82 = .ok (.iadd, 1) := by decide +kernel
theorem dX0_whyNot_83 : decode cX0_whyNot 83 = .ok (.invokestatic 75, 3) := by decide +kernel
theorem dX0_whyNot_86 : decode cX0_whyNot 86 = .ok (.lastore, 1) := by decide +kernel
theorem dX0_whyNot_87 : decode cX0_whyNot 87 = .ok (.aload_n 0, 1) := by decide +kernel
theorem dX0_whyNot_88 : decode cX0_whyNot 88 = .ok (.getfield 12, 3) := by decide +kernel
theorem dX0_whyNot_91 : decode cX0_whyNot 91 = .ok (.getfield 79, 3) := by decide +kernel
theorem dX0_whyNot_94 : decode cX0_whyNot 94 = .ok (.iload_n 2, 1) := by decide +kernel
theorem dX0_whyNot_95 : decode cX0_whyNot 95 = .ok (.aload 4, 2) := by decide +kernel
theorem dX0_whyNot_97 : decode cX0_whyNot 97 = .ok (.iload 7, 2) := by decide +kernel
theorem dX0_whyNot_99 : decode cX0_whyNot 99 = .ok (.bipush 9, 2) := by decide +kernel
theorem dX0_whyNot_101 : decode cX0_whyNot 101 = .ok (.iadd, 1) := by decide +kernel
theorem dX0_whyNot_102 : decode cX0_whyNot 102 = .ok (.invokestatic 75, 3) := by decide +kernel
theorem dX0_whyNot_105 : decode cX0_whyNot 105 = .ok (.lastore, 1) := by decide +kernel
theorem dX0_whyNot_106 : decode cX0_whyNot 106 = .ok (.aload_n 0, 1) := by decide +kernel
theorem dX0_whyNot_107 : decode cX0_whyNot 107 = .ok (.getfield 21, 3) := by decide +kernel
theorem dX0_whyNot_110 : decode cX0_whyNot 110 = .ok (.getfield 82, 3) := by decide +kernel
theorem dX0_whyNot_113 : decode cX0_whyNot 113 = .ok (.iload_n 2, 1) := by decide +kernel
theorem dX0_whyNot_114 : decode cX0_whyNot 114 = .ok (.aload 4, 2) := by decide +kernel
theorem dX0_whyNot_116 : decode cX0_whyNot 116 = .ok (.iload 7, 2) := by decide +kernel
theorem dX0_whyNot_118 : decode cX0_whyNot 118 = .ok (.bipush 17, 2) := by decide +kernel
theorem dX0_whyNot_120 : decode cX0_whyNot 120 = .ok (.iadd, 1) := by decide +kernel
theorem dX0_whyNot_121 : decode cX0_whyNot 121 = .ok (.invokestatic 75, 3) := by decide +kernel
theorem dX0_whyNot_124 : decode cX0_whyNot 124 = .ok (.lastore, 1) := by decide +kernel
theorem dX0_whyNot_125 : decode cX0_whyNot 125 = .ok (.aload_n 0, 1) := by decide +kernel
theorem dX0_whyNot_126 : decode cX0_whyNot 126 = .ok (.getfield 12, 3) := by decide +kernel
theorem dX0_whyNot_129 : decode cX0_whyNot 129 = .ok (.getfield 71, 3) := by decide +kernel
theorem dX0_whyNot_132 : decode cX0_whyNot 132 = .ok (.iload_n 2, 1) := by decide +kernel
theorem dX0_whyNot_133 : decode cX0_whyNot 133 = .ok (.laload, 1) := by decide +kernel
theorem dX0_whyNot_134 : decode cX0_whyNot 134 = .ok (.aload_n 0, 1) := by decide +kernel
theorem dX0_whyNot_135 : decode cX0_whyNot 135 = .ok (.getfield 12, 3) := by decide +kernel
theorem dX0_whyNot_138 : decode cX0_whyNot 138 = .ok (.aload_n 1, 1) := by decide +kernel
theorem dX0_whyNot_139 : decode cX0_whyNot 139 = .ok (.getfield 39, 3) := by decide +kernel
theorem dX0_whyNot_142 : decode cX0_whyNot 142 = .ok (.iload_n 2, 1) := by decide +kernel
theorem dX0_whyNot_143 : decode cX0_whyNot 143 = .ok (.invokevirtual 85, 3) := by decide +kernel
theorem dX0_whyNot_146 : decode cX0_whyNot 146 = .ok (.lcmp, 1) := by decide +kernel
theorem dX0_whyNot_147 : decode cX0_whyNot 147 = .ok (.ifCond .le 5, 3) := by decide +kernel
theorem dX0_whyNot_150 : decode cX0_whyNot 150 = .ok (.iconst 2, 1) := by decide +kernel
theorem dX0_whyNot_151 : decode cX0_whyNot 151 = .ok (.ireturn, 1) := by decide +kernel
theorem dX0_whyNot_152 : decode cX0_whyNot 152 = .ok (.aload_n 0, 1) := by decide +kernel
theorem dX0_whyNot_153 : decode cX0_whyNot 153 = .ok (.getfield 12, 3) := by decide +kernel
theorem dX0_whyNot_156 : decode cX0_whyNot 156 = .ok (.getfield 79, 3) := by decide +kernel
theorem dX0_whyNot_159 : decode cX0_whyNot 159 = .ok (.iload_n 2, 1) := by decide +kernel
theorem dX0_whyNot_160 : decode cX0_whyNot 160 = .ok (.laload, 1) := by decide +kernel
theorem dX0_whyNot_161 : decode cX0_whyNot 161 = .ok (.aload_n 0, 1) := by decide +kernel
theorem dX0_whyNot_162 : decode cX0_whyNot 162 = .ok (.getfield 12, 3) := by decide +kernel
theorem dX0_whyNot_165 : decode cX0_whyNot 165 = .ok (.aload_n 1, 1) := by decide +kernel
theorem dX0_whyNot_166 : decode cX0_whyNot 166 = .ok (.getfield 39, 3) := by decide +kernel
theorem dX0_whyNot_169 : decode cX0_whyNot 169 = .ok (.iload_n 2, 1) := by decide +kernel
theorem dX0_whyNot_170 : decode cX0_whyNot 170 = .ok (.invokevirtual 89, 3) := by decide +kernel
theorem dX0_whyNot_173 : decode cX0_whyNot 173 = .ok (.lcmp, 1) := by decide +kernel
theorem dX0_whyNot_174 : decode cX0_whyNot 174 = .ok (.ifCond .ge 5, 3) := by decide +kernel
theorem dX0_whyNot_177 : decode cX0_whyNot 177 = .ok (.iconst 3, 1) := by decide +kernel
theorem dX0_whyNot_178 : decode cX0_whyNot 178 = .ok (.ireturn, 1) := by decide +kernel
theorem dX0_whyNot_179 : decode cX0_whyNot 179 = .ok (.aload_n 0, 1) := by decide +kernel
theorem dX0_whyNot_180 : decode cX0_whyNot 180 = .ok (.getfield 21, 3) := by decide +kernel
theorem dX0_whyNot_183 : decode cX0_whyNot 183 = .ok (.getfield 82, 3) := by decide +kernel
theorem dX0_whyNot_186 : decode cX0_whyNot 186 = .ok (.iload_n 2, 1) := by decide +kernel
theorem dX0_whyNot_187 : decode cX0_whyNot 187 = .ok (.laload, 1) := by decide +kernel
theorem dX0_whyNot_188 : decode cX0_whyNot 188 = .ok (.lstore 8, 2) := by decide +kernel
theorem dX0_whyNot_190 : decode cX0_whyNot 190 = .ok (.lload 8, 2) := by decide +kernel
theorem dX0_whyNot_192 : decode cX0_whyNot 192 = .ok (.aload_n 0, 1) := by decide +kernel
theorem dX0_whyNot_193 : decode cX0_whyNot 193 = .ok (.getfield 21, 3) := by decide +kernel
theorem dX0_whyNot_196 : decode cX0_whyNot 196 = .ok (.aload_n 1, 1) := by decide +kernel
theorem dX0_whyNot_197 : decode cX0_whyNot 197 = .ok (.aload_n 0, 1) := by decide +kernel
theorem dX0_whyNot_198 : decode cX0_whyNot 198 = .ok (.getfield 12, 3) := by decide +kernel
theorem dX0_whyNot_201 : decode cX0_whyNot 201 = .ok (.aload_n 0, 1) := by decide +kernel
theorem dX0_whyNot_202 : decode cX0_whyNot 202 = .ok (.getfield 25, 3) := by decide +kernel
theorem dX0_whyNot_205 : decode cX0_whyNot 205 = .ok (.iload_n 2, 1) := by decide +kernel
theorem dX0_whyNot_206 : decode cX0_whyNot 206 = .ok (.invokevirtual 92, 3) := by decide +kernel
theorem dX0_whyNot_209 : decode cX0_whyNot 209 = .ok (.lcmp, 1) := by decide +kernel
theorem dX0_whyNot_210 : decode cX0_whyNot 210 = .ok (.ifCond .ge 5, 3) := by decide +kernel
theorem dX0_whyNot_213 : decode cX0_whyNot 213 = .ok (.iconst 4, 1) := by decide +kernel
theorem dX0_whyNot_214 : decode cX0_whyNot 214 = .ok (.ireturn, 1) := by decide +kernel
theorem dX0_whyNot_215 : decode cX0_whyNot 215 = .ok (.aload_n 0, 1) := by decide +kernel
theorem dX0_whyNot_216 : decode cX0_whyNot 216 = .ok (.getfield 12, 3) := by decide +kernel
theorem dX0_whyNot_219 : decode cX0_whyNot 219 = .ok (.iload_n 2, 1) := by decide +kernel
theorem dX0_whyNot_220 : decode cX0_whyNot 220 = .ok (.invokevirtual 96, 3) := by decide +kernel
theorem dX0_whyNot_223 : decode cX0_whyNot 223 = .ok (.lload 8, 2) := by decide +kernel
theorem dX0_whyNot_225 : decode cX0_whyNot 225 = .ok (.ladd, 1) := by decide +kernel
theorem dX0_whyNot_226 : decode cX0_whyNot 226 = .ok (.aload_n 1, 1) := by decide +kernel
theorem dX0_whyNot_227 : decode cX0_whyNot 227 = .ok (.iload_n 3, 1) := by decide +kernel
theorem dX0_whyNot_228 : decode cX0_whyNot 228 = .ok (.invokevirtual 100, 3) := by decide +kernel
theorem dX0_whyNot_231 : decode cX0_whyNot 231 = .ok (.i2l, 1) := by decide +kernel
theorem dX0_whyNot_232 : decode cX0_whyNot 232 = .ok (.lcmp, 1) := by decide +kernel
theorem dX0_whyNot_233 : decode cX0_whyNot 233 = .ok (.ifCond .le 5, 3) := by decide +kernel
theorem dX0_whyNot_236 : decode cX0_whyNot 236 = .ok (.iconst 5, 1) := by decide +kernel
theorem dX0_whyNot_237 : decode cX0_whyNot 237 = .ok (.ireturn, 1) := by decide +kernel
theorem dX0_whyNot_238 : decode cX0_whyNot 238 = .ok (.aload_n 1, 1) := by decide +kernel
theorem dX0_whyNot_239 : decode cX0_whyNot 239 = .ok (.iload_n 2, 1) := by decide +kernel
theorem dX0_whyNot_240 : decode cX0_whyNot 240 = .ok (.invokevirtual 104, 3) := by decide +kernel
theorem dX0_whyNot_243 : decode cX0_whyNot 243 = .ok (.ifCond .eq 24, 3) := by decide +kernel
theorem dX0_whyNot_246 : decode cX0_whyNot 246 = .ok (.lload 8, 2) := by decide +kernel
theorem dX0_whyNot_248 : decode cX0_whyNot 248 = .ok (.aload_n 1, 1) := by decide +kernel
theorem dX0_whyNot_249 : decode cX0_whyNot 249 = .ok (.getfield 39, 3) := by decide +kernel
theorem dX0_whyNot_252 : decode cX0_whyNot 252 = .ok (.getfield 107, 3) := by decide +kernel
theorem dX0_whyNot_255 : decode cX0_whyNot 255 = .ok (.iload_n 2, 1) := by decide +kernel
theorem dX0_whyNot_256 : decode cX0_whyNot 256 = .ok (.iaload, 1) := by decide +kernel
theorem dX0_whyNot_257 : decode cX0_whyNot 257 = .ok (.i2l, 1) := by decide +kernel
theorem dX0_whyNot_258 : decode cX0_whyNot 258 = .ok (.lcmp, 1) := by decide +kernel
theorem dX0_whyNot_259 : decode cX0_whyNot 259 = .ok (.ifCond .le 8, 3) := by decide +kernel
theorem dX0_whyNot_262 : decode cX0_whyNot 262 = .ok (.bipush 6, 2) := by decide +kernel
theorem dX0_whyNot_264 : decode cX0_whyNot 264 = .ok (.goto 4, 3) := by decide +kernel
theorem dX0_whyNot_267 : decode cX0_whyNot 267 = .ok (.iconst 0, 1) := by decide +kernel
theorem dX0_whyNot_268 : decode cX0_whyNot 268 = .ok (.ireturn, 1) := by decide +kernel
theorem dX0_readLong_0 : decode cX0_readLong 0 = .ok (.lconst 0, 1) := by decide +kernel
theorem dX0_readLong_1 : decode cX0_readLong 1 = .ok (.lstore_n 2, 1) := by decide +kernel
theorem dX0_readLong_2 : decode cX0_readLong 2 = .ok (.iload_n 1, 1) := by decide +kernel
theorem dX0_readLong_3 : decode cX0_readLong 3 = .ok (.istore 4, 2) := by decide +kernel
theorem dX0_readLong_5 : decode cX0_readLong 5 = .ok (.iload 4, 2) := by decide +kernel
theorem dX0_readLong_7 : decode cX0_readLong 7 = .ok (.iload_n 1, 1) := by decide +kernel
theorem dX0_readLong_8 : decode cX0_readLong 8 = .ok (.bipush 8, 2) := by decide +kernel
theorem dX0_readLong_10 : decode cX0_readLong 10 = .ok (.iadd, 1) := by decide +kernel
theorem dX0_readLong_11 : decode cX0_readLong 11 = .ok (.if_icmp .ge 31, 3) := by decide +kernel
theorem dX0_readLong_14 : decode cX0_readLong 14 = .ok (.iload 4, 2) := by decide +kernel
theorem dX0_readLong_16 : decode cX0_readLong 16 = .ok (.aload_n 0, 1) := by decide +kernel
theorem dX0_readLong_17 : decode cX0_readLong 17 = .ok (.arraylength, 1) := by decide +kernel
theorem dX0_readLong_18 : decode cX0_readLong 18 = .ok (.if_icmp .ge 24, 3) := by decide +kernel
theorem dX0_readLong_21 : decode cX0_readLong 21 = .ok (.lload_n 2, 1) := by decide +kernel
theorem dX0_readLong_22 : decode cX0_readLong 22 = .ok (.bipush 8, 2) := by decide +kernel
theorem dX0_readLong_24 : decode cX0_readLong 24 = .ok (.lshl, 1) := by decide +kernel
theorem dX0_readLong_25 : decode cX0_readLong 25 = .ok (.aload_n 0, 1) := by decide +kernel
theorem dX0_readLong_26 : decode cX0_readLong 26 = .ok (.iload 4, 2) := by decide +kernel
theorem dX0_readLong_28 : decode cX0_readLong 28 = .ok (.baload, 1) := by decide +kernel
theorem dX0_readLong_29 : decode cX0_readLong 29 = .ok (.sipush 255, 3) := by decide +kernel
theorem dX0_readLong_32 : decode cX0_readLong 32 = .ok (.iand, 1) := by decide +kernel
theorem dX0_readLong_33 : decode cX0_readLong 33 = .ok (.i2l, 1) := by decide +kernel
theorem dX0_readLong_34 : decode cX0_readLong 34 = .ok (.lor, 1) := by decide +kernel
theorem dX0_readLong_35 : decode cX0_readLong 35 = .ok (.lstore_n 2, 1) := by decide +kernel
theorem dX0_readLong_36 : decode cX0_readLong 36 = .ok (.iinc 4 1, 3) := by decide +kernel
theorem dX0_readLong_39 : decode cX0_readLong 39 = .ok (.goto (-34), 3) := by decide +kernel
theorem dX0_readLong_42 : decode cX0_readLong 42 = .ok (.ldc2_w 110, 3) := by decide +kernel
theorem dX0_readLong_45 : decode cX0_readLong 45 = .ok (.ldc2_w 112, 3) := by decide +kernel
theorem dX0_readLong_48 : decode cX0_readLong 48 = .ok (.lload_n 2, 1) := by decide +kernel
theorem dX0_readLong_49 : decode cX0_readLong 49 = .ok (.invokestatic 114, 3) := by decide +kernel
theorem dX0_readLong_52 : decode cX0_readLong 52 = .ok (.invokestatic 120, 3) := by decide +kernel
theorem dX0_readLong_55 : decode cX0_readLong 55 = .ok (.lreturn, 1) := by decide +kernel
theorem dX1_init_0 : decode cX1_init 0 = .ok (.aload_n 0, 1) := by decide +kernel
theorem dX1_init_1 : decode cX1_init 1 = .ok (.invokespecial 3, 3) := by decide +kernel
theorem dX1_init_4 : decode cX1_init 4 = .ok (.aload_n 0, 1) := by decide +kernel
theorem dX1_init_5 : decode cX1_init 5 = .ok (.new 9, 3) := by decide +kernel
theorem dX1_init_8 : decode cX1_init 8 = .ok (.dup, 1) := by decide +kernel
theorem dX1_init_9 : decode cX1_init 9 = .ok (.invokespecial 11, 3) := by decide +kernel
theorem dX1_init_12 : decode cX1_init 12 = .ok (.putfield 12, 3) := by decide +kernel
theorem dX1_init_15 : decode cX1_init 15 = .ok (.aload_n 0, 1) := by decide +kernel
theorem dX1_init_16 : decode cX1_init 16 = .ok (.bipush 14, 2) := by decide +kernel
theorem dX1_init_18 : decode cX1_init 18 = .ok (.newarray .int, 2) := by decide +kernel
theorem dX1_init_20 : decode cX1_init 20 = .ok (.putfield 18, 3) := by decide +kernel
theorem dX1_init_23 : decode cX1_init 23 = .ok (.aload_n 0, 1) := by decide +kernel
theorem dX1_init_24 : decode cX1_init 24 = .ok (.iconst 0, 1) := by decide +kernel
theorem dX1_init_25 : decode cX1_init 25 = .ok (.newarray .int, 2) := by decide +kernel
theorem dX1_init_27 : decode cX1_init 27 = .ok (.putfield 22, 3) := by decide +kernel
theorem dX1_init_30 : decode cX1_init 30 = .ok (.aload_n 0, 1) := by decide +kernel
theorem dX1_init_31 : decode cX1_init 31 = .ok (.iconst 0, 1) := by decide +kernel
theorem dX1_init_32 : decode cX1_init 32 = .ok (.newarray .int, 2) := by decide +kernel
theorem dX1_init_34 : decode cX1_init 34 = .ok (.putfield 25, 3) := by decide +kernel
theorem dX1_init_37 : decode cX1_init 37 = .ok (.aload_n 0, 1) := by decide +kernel
theorem dX1_init_38 : decode cX1_init 38 = .ok (.iconst (-1), 1) := by decide +kernel
theorem dX1_init_39 : decode cX1_init 39 = .ok (.putfield 28, 3) := by decide +kernel
theorem dX1_init_42 : decode cX1_init 42 = .ok (.aload_n 0, 1) := by decide +kernel
theorem dX1_init_43 : decode cX1_init 43 = .ok (.iconst (-1), 1) := by decide +kernel
theorem dX1_init_44 : decode cX1_init 44 = .ok (.putfield 32, 3) := by decide +kernel
theorem dX1_init_47 : decode cX1_init 47 = .ok (.aload_n 0, 1) := by decide +kernel
theorem dX1_init_48 : decode cX1_init 48 = .ok (.iconst 0, 1) := by decide +kernel
theorem dX1_init_49 : decode cX1_init 49 = .ok (.newarray .int, 2) := by decide +kernel
theorem dX1_init_51 : decode cX1_init 51 = .ok (.putfield 35, 3) := by decide +kernel
theorem dX1_init_54 : decode cX1_init 54 = .ok (.aload_n 0, 1) := by decide +kernel
theorem dX1_init_55 : decode cX1_init 55 = .ok (.iconst 0, 1) := by decide +kernel
theorem dX1_init_56 : decode cX1_init 56 = .ok (.newarray .int, 2) := by decide +kernel
theorem dX1_init_58 : decode cX1_init 58 = .ok (.putfield 38, 3) := by decide +kernel
theorem dX1_init_61 : decode cX1_init 61 = .ok (.aload_n 0, 1) := by decide +kernel
theorem dX1_init_62 : decode cX1_init 62 = .ok (.iconst 0, 1) := by decide +kernel
theorem dX1_init_63 : decode cX1_init 63 = .ok (.newarray .int, 2) := by decide +kernel
theorem dX1_init_65 : decode cX1_init 65 = .ok (.putfield 41, 3) := by decide +kernel
theorem dX1_init_68 : decode cX1_init 68 = .ok (.return_, 1) := by decide +kernel
theorem dX1_forget_0 : decode cX1_forget 0 = .ok (.aload_n 0, 1) := by decide +kernel
theorem dX1_forget_1 : decode cX1_forget 1 = .ok (.iconst 0, 1) := by decide +kernel
theorem dX1_forget_2 : decode cX1_forget 2 = .ok (.putfield 44, 3) := by decide +kernel
theorem dX1_forget_5 : decode cX1_forget 5 = .ok (.aload_n 0, 1) := by decide +kernel
theorem dX1_forget_6 : decode cX1_forget 6 = .ok (.iconst (-1), 1) := by decide +kernel
theorem dX1_forget_7 : decode cX1_forget 7 = .ok (.putfield 32, 3) := by decide +kernel
theorem dX1_forget_10 : decode cX1_forget 10 = .ok (.return_, 1) := by decide +kernel
theorem dX1_search_0 : decode cX1_search 0 = .ok (.aload_n 1, 1) := by decide +kernel
theorem dX1_search_1 : decode cX1_search 1 = .ok (.getfield 48, 3) := by decide +kernel
theorem dX1_search_4 : decode cX1_search 4 = .ok (.getfield 54, 3) := by decide +kernel
theorem dX1_search_7 : decode cX1_search 7 = .ok (.ifCond .eq 14, 3) := by decide +kernel
theorem dX1_search_10 : decode cX1_search 10 = .ok (.aload_n 1, 1) := by decide +kernel
theorem dX1_search_11 : decode cX1_search 11 = .ok (.getfield 59, 3) := by decide +kernel
theorem dX1_search_14 : decode cX1_search 14 = .ok (.getfield 63, 3) := by decide +kernel
theorem dX1_search_17 : decode cX1_search 17 = .ok (.iconst 5, 1) := by decide +kernel
theorem dX1_search_18 : decode cX1_search 18 = .ok (.if_icmp .le 5, 3) := by decide +kernel
theorem dX1_search_21 : decode cX1_search 21 = .ok (.iconst 0, 1) := by decide +kernel
theorem dX1_search_22 : decode cX1_search 22 = .ok (.ireturn, 1) := by decide +kernel
theorem dX1_search_23 : decode cX1_search 23 = .ok (.aload_n 0, 1) := by decide +kernel
theorem dX1_search_24 : decode cX1_search 24 = .ok (.getfield 44, 3) := by decide +kernel
theorem dX1_search_27 : decode cX1_search 27 = .ok (.ifCond .ne 30, 3) := by decide +kernel
theorem dX1_search_30 : decode cX1_search 30 = .ok (.aload_n 0, 1) := by decide +kernel
theorem dX1_search_31 : decode cX1_search 31 = .ok (.iconst 1, 1) := by decide +kernel
theorem dX1_search_32 : decode cX1_search 32 = .ok (.putfield 44, 3) := by decide +kernel
theorem dX1_search_35 : decode cX1_search 35 = .ok (.aload_n 0, 1) := by decide +kernel
theorem dX1_search_36 : decode cX1_search 36 = .ok (.iconst 0, 1) := by decide +kernel
theorem dX1_search_37 : decode cX1_search 37 = .ok (.putfield 68, 3) := by decide +kernel
theorem dX1_search_40 : decode cX1_search 40 = .ok (.aload_n 0, 1) := by decide +kernel
theorem dX1_search_41 : decode cX1_search 41 = .ok (.iconst (-1), 1) := by decide +kernel
theorem dX1_search_42 : decode cX1_search 42 = .ok (.putfield 28, 3) := by decide +kernel
theorem dX1_search_45 : decode cX1_search 45 = .ok (.aload_n 1, 1) := by decide +kernel
theorem dX1_search_46 : decode cX1_search 46 = .ok (.invokevirtual 71, 3) := by decide +kernel
theorem dX1_search_49 : decode cX1_search 49 = .ok (.ifCond .eq 8, 3) := by decide +kernel
theorem dX1_search_52 : decode cX1_search 52 = .ok (.aload_n 0, 1) := by decide +kernel
theorem dX1_search_53 : decode cX1_search 53 = .ok (.aload_n 1, 1) := by decide +kernel
theorem dX1_search_54 : decode cX1_search 54 = .ok (.invokevirtual 75, 3) := by decide +kernel
theorem dX1_search_57 : decode cX1_search 57 = .ok (.iconst 1, 1) := by decide +kernel
theorem dX1_search_58 : decode cX1_search 58 = .ok (.ireturn, 1) := by decide +kernel
theorem dX1_searchAll_0 : decode cX1_searchAll 0 = .ok (.iconst 1, 1) := by decide +kernel
theorem dX1_searchAll_1 : decode cX1_searchAll 1 = .ok (.istore_n 2, 1) := by decide +kernel
theorem dX1_searchAll_2 : decode cX1_searchAll 2 = .ok (.iconst 0, 1) := by decide +kernel
theorem dX1_searchAll_3 : decode cX1_searchAll 3 = .ok (.istore_n 3, 1) := by decide +kernel
theorem dX1_searchAll_4 : decode cX1_searchAll 4 = .ok (.iload_n 3, 1) := by decide +kernel
theorem dX1_searchAll_5 : decode cX1_searchAll 5 = .ok (.aload_n 1, 1) := by decide +kernel
theorem dX1_searchAll_6 : decode cX1_searchAll 6 = .ok (.getfield 59, 3) := by decide +kernel
theorem dX1_searchAll_9 : decode cX1_searchAll 9 = .ok (.getfield 63, 3) := by decide +kernel
theorem dX1_searchAll_12 : decode cX1_searchAll 12 = .ok (.if_icmp .ge 21, 3) := by decide +kernel
theorem dX1_searchAll_15 : decode cX1_searchAll 15 = .ok (.iload_n 3, 1) := by decide +kernel
theorem dX1_searchAll_16 : decode cX1_searchAll 16 = .ok (.iconst 5, 1) := by decide +kernel
theorem dX1_searchAll_17 : decode cX1_searchAll 17 = .ok (.if_icmp .ge 16, 3) := by decide +kernel
theorem dX1_searchAll_20 : decode cX1_searchAll 20 = .ok (.iload_n 2, 1) := by decide +kernel
theorem dX1_searchAll_21 : decode cX1_searchAll 21 = .ok (.aload_n 1, 1) := by decide +kernel
theorem dX1_searchAll_22 : decode cX1_searchAll 22 = .ok (.getfield 79, 3) := by decide +kernel
theorem dX1_searchAll_25 : decode cX1_searchAll 25 = .ok (.imul, 1) := by decide +kernel
theorem dX1_searchAll_26 : decode cX1_searchAll 26 = .ok (.istore_n 2, 1) := by decide +kernel
theorem dX1_searchAll_27 : decode cX1_searchAll 27 = .ok (.iinc 3 1, 3) := by decide +kernel
theorem dX1_searchAll_30 : decode cX1_searchAll 30 = .ok (.goto (-26), 3) := by decide +kernel
theorem dX1_searchAll_33 : decode cX1_searchAll 33 = .ok (.aload_n 0, 1) := by decide +kernel
theorem dX1_searchAll_34 : decode cX1_searchAll 34 = .ok (.aload_n 1, 1) := by decide +kernel
theorem dX1_searchAll_35 : decode cX1_searchAll 35 = .ok (.getfield 48, 3) := by decide +kernel
theorem dX1_searchAll_38 : decode cX1_searchAll 38 = .ok (.aload_n 1, 1) := by decide +kernel
theorem dX1_searchAll_39 : decode cX1_searchAll 39 = .ok (.getfield 48, 3) := by decide +kernel
theorem dX1_searchAll_42 : decode cX1_searchAll 42 = .ok (.getfield 54, 3) := by decide +kernel
theorem dX1_searchAll_45 : decode cX1_searchAll 45 = .ok (.invokevirtual 82, 3) := by decide +kernel
theorem dX1_searchAll_48 : decode cX1_searchAll 48 = .ok (.putfield 86, 3) := by decide +kernel
theorem dX1_searchAll_51 : decode cX1_searchAll 51 = .ok (.aload_n 0, 1) := by decide +kernel
theorem dX1_searchAll_52 : decode cX1_searchAll 52 = .ok (.iload_n 2, 1) := by decide +kernel
theorem dX1_searchAll_53 : decode cX1_searchAll 53 = .ok (.invokevirtual 89, 3) := by decide +kernel
theorem dX1_searchAll_56 : decode cX1_searchAll 56 = .ok (.iconst 0, 1) := by decide +kernel
theorem dX1_searchAll_57 : decode cX1_searchAll 57 = .ok (.istore_n 3, 1) := by decide +kernel
theorem dX1_searchAll_58 : decode cX1_searchAll 58 = .ok (.iload_n 3, 1) := by decide +kernel
theorem dX1_searchAll_59 : decode cX1_searchAll 59 = .ok (.iload_n 2, 1) := by decide +kernel
theorem dX1_searchAll_60 : decode cX1_searchAll 60 = .ok (.if_icmp .ge 51, 3) := by decide +kernel
theorem dX1_searchAll_63 : decode cX1_searchAll 63 = .ok (.aload_n 1, 1) := by decide +kernel
theorem dX1_searchAll_64 : decode cX1_searchAll 64 = .ok (.iload_n 3, 1) := by decide +kernel
theorem dX1_searchAll_65 : decode cX1_searchAll 65 = .ok (.aload_n 0, 1) := by decide +kernel
theorem dX1_searchAll_66 : decode cX1_searchAll 66 = .ok (.getfield 18, 3) := by decide +kernel
theorem dX1_searchAll_69 : decode cX1_searchAll 69 = .ok (.invokestatic 93, 3) := by decide +kernel
theorem dX1_searchAll_72 : decode cX1_searchAll 72 = .ok (.aload_n 0, 1) := by decide +kernel
theorem dX1_searchAll_73 : decode cX1_searchAll 73 = .ok (.getfield 12, 3) := by decide +kernel
theorem dX1_searchAll_76 : decode cX1_searchAll 76 = .ok (.aload_n 1, 1) := by decide +kernel
theorem dX1_searchAll_77 : decode cX1_searchAll 77 = .ok (.aload_n 1, 1) := by decide +kernel
theorem dX1_searchAll_78 : decode cX1_searchAll 78 = .ok (.getfield 97, 3) := by decide +kernel
theorem dX1_searchAll_81 : decode cX1_searchAll 81 = .ok (.aload_n 0, 1) := by decide +kernel
theorem dX1_searchAll_82 : decode cX1_searchAll 82 = .ok (.getfield 18, 3) := by decide +kernel
theorem dX1_searchAll_85 : decode cX1_searchAll 85 = .ok (.invokevirtual 101, 3) := by decide +kernel
theorem dX1_searchAll_88 : decode cX1_searchAll 88 = .ok (.ifCond .eq 17, 3) := by decide +kernel
theorem dX1_searchAll_91 : decode cX1_searchAll 91 = .ok (.aload_n 0, 1) := by decide +kernel
theorem dX1_searchAll_92 : decode cX1_searchAll 92 = .ok (.aload_n 1, 1) := by decide +kernel
theorem dX1_searchAll_93 : decode cX1_searchAll 93 = .ok (.iload_n 3, 1) := by decide +kernel
theorem dX1_searchAll_94 : decode cX1_searchAll 94 = .ok (.aload_n 1, 1) := by decide +kernel
theorem dX1_searchAll_95 : decode cX1_searchAll 95 = .ok (.aload_n 0, 1) := by decide +kernel
theorem dX1_searchAll_96 : decode cX1_searchAll 96 = .ok (.getfield 18, 3) := by decide +kernel
theorem dX1_searchAll_99 : decode cX1_searchAll 99 = .ok (.invokevirtual 105, 3) := by decide +kernel
theorem dX1_searchAll_102 : decode cX1_searchAll 102 = .ok (.invokevirtual 109, 3) := by decide +kernel
theorem dX1_searchAll_105 : decode cX1_searchAll 105 = .ok (.iinc 3 1, 3) := by decide +kernel
theorem dX1_searchAll_108 : decode cX1_searchAll 108 = .ok (.goto (-50), 3) := by decide +kernel
theorem dX1_searchAll_111 : decode cX1_searchAll 111 = .ok (.return_, 1) := by decide +kernel
theorem dX1_makeRoom_0 : decode cX1_makeRoom 0 = .ok (.aload_n 0, 1) := by decide +kernel
theorem dX1_makeRoom_1 : decode cX1_makeRoom 1 = .ok (.getfield 22, 3) := by decide +kernel
theorem dX1_makeRoom_4 : decode cX1_makeRoom 4 = .ok (.arraylength, 1) := by decide +kernel
theorem dX1_makeRoom_5 : decode cX1_makeRoom 5 = .ok (.iload_n 1, 1) := by decide +kernel
theorem dX1_makeRoom_6 : decode cX1_makeRoom 6 = .ok (.if_icmp .ge 31, 3) := by decide +kernel
theorem dX1_makeRoom_9 : decode cX1_makeRoom 9 = .ok (.aload_n 0, 1) := by decide +kernel
theorem dX1_makeRoom_10 : decode cX1_makeRoom 10 = .ok (.iload_n 1, 1) := by decide +kernel
theorem dX1_makeRoom_11 : decode cX1_makeRoom 11 = .ok (.newarray .int, 2) := by decide +kernel
theorem dX1_makeRoom_13 : decode cX1_makeRoom 13 = .ok (.putfield 22, 3) := by decide +kernel
theorem dX1_makeRoom_16 : decode cX1_makeRoom 16 = .ok (.aload_n 0, 1) := by decide +kernel
theorem dX1_makeRoom_17 : decode cX1_makeRoom 17 = .ok (.iload_n 1, 1) := by decide +kernel
theorem dX1_makeRoom_18 : decode cX1_makeRoom 18 = .ok (.newarray .int, 2) := by decide +kernel
theorem dX1_makeRoom_20 : decode cX1_makeRoom 20 = .ok (.putfield 35, 3) := by decide +kernel
theorem dX1_makeRoom_23 : decode cX1_makeRoom 23 = .ok (.aload_n 0, 1) := by decide +kernel
theorem dX1_makeRoom_24 : decode cX1_makeRoom 24 = .ok (.iload_n 1, 1) := by decide +kernel
theorem dX1_makeRoom_25 : decode cX1_makeRoom 25 = .ok (.newarray .int, 2) := by decide +kernel
theorem dX1_makeRoom_27 : decode cX1_makeRoom 27 = .ok (.putfield 38, 3) := by decide +kernel
theorem dX1_makeRoom_30 : decode cX1_makeRoom 30 = .ok (.aload_n 0, 1) := by decide +kernel
theorem dX1_makeRoom_31 : decode cX1_makeRoom 31 = .ok (.iload_n 1, 1) := by decide +kernel
theorem dX1_makeRoom_32 : decode cX1_makeRoom 32 = .ok (.newarray .int, 2) := by decide +kernel
theorem dX1_makeRoom_34 : decode cX1_makeRoom 34 = .ok (.putfield 41, 3) := by decide +kernel
theorem dX1_makeRoom_37 : decode cX1_makeRoom 37 = .ok (.aload_n 0, 1) := by decide +kernel
theorem dX1_makeRoom_38 : decode cX1_makeRoom 38 = .ok (.getfield 25, 3) := by decide +kernel
theorem dX1_makeRoom_41 : decode cX1_makeRoom 41 = .ok (.arraylength, 1) := by decide +kernel
theorem dX1_makeRoom_42 : decode cX1_makeRoom 42 = .ok (.iload_n 1, 1) := by decide +kernel
theorem dX1_makeRoom_43 : decode cX1_makeRoom 43 = .ok (.aload_n 0, 1) := by decide +kernel
theorem dX1_makeRoom_44 : decode cX1_makeRoom 44 = .ok (.getfield 86, 3) := by decide +kernel
theorem dX1_makeRoom_47 : decode cX1_makeRoom 47 = .ok (.imul, 1) := by decide +kernel
theorem dX1_makeRoom_48 : decode cX1_makeRoom 48 = .ok (.if_icmp .ge 15, 3) := by decide +kernel
theorem dX1_makeRoom_51 : decode cX1_makeRoom 51 = .ok (.aload_n 0, 1) := by decide +kernel
theorem dX1_makeRoom_52 : decode cX1_makeRoom 52 = .ok (.iload_n 1, 1) := by decide +kernel
theorem dX1_makeRoom_53 : decode cX1_makeRoom 53 = .ok (.aload_n 0, 1) := by decide +kernel
theorem dX1_makeRoom_54 : decode cX1_makeRoom 54 = .ok (.getfield 86, 3) := by decide +kernel
theorem dX1_makeRoom_57 : decode cX1_makeRoom 57 = .ok (.imul, 1) := by decide +kernel
theorem dX1_makeRoom_58 : decode cX1_makeRoom 58 = .ok (.newarray .int, 2) := by decide +kernel
theorem dX1_makeRoom_60 : decode cX1_makeRoom 60 = .ok (.putfield 25, 3) := by decide +kernel
theorem dX1_makeRoom_63 : decode cX1_makeRoom 63 = .ok (.return_, 1) := by decide +kernel
theorem dX1_unfold_0 : decode cX1_unfold 0 = .ok (.iload_n 1, 1) := by decide +kernel
theorem dX1_unfold_1 : decode cX1_unfold 1 = .ok (.istore_n 3, 1) := by decide +kernel
theorem dX1_unfold_2 : decode cX1_unfold 2 = .ok (.aload_n 0, 1) := by decide +kernel
theorem dX1_unfold_3 : decode cX1_unfold 3 = .ok (.getfield 59, 3) := by decide +kernel
theorem dX1_unfold_6 : decode cX1_unfold 6 = .ok (.getfield 113, 3) := by decide +kernel
theorem dX1_unfold_9 : decode cX1_unfold 9 = .ok (.iconst 1, 1) := by decide +kernel
theorem dX1_unfold_10 : decode cX1_unfold 10 = .ok (.isub, 1) := by decide +kernel
theorem dX1_unfold_11 : decode cX1_unfold 11 = .ok (.istore 4, 2) := by decide +kernel
theorem dX1_unfold_13 : decode cX1_unfold 13 = .ok (.iload 4, 2) := by decide +kernel
theorem dX1_unfold_15 : decode cX1_unfold 15 = .ok (.ifCond .lt 57, 3) := by decide +kernel
theorem dX1_unfold_18 : decode cX1_unfold 18 = .ok (.aload_n 0, 1) := by decide +kernel
theorem dX1_unfold_19 : decode cX1_unfold 19 = .ok (.getfield 59, 3) := by decide +kernel
theorem dX1_unfold_22 : decode cX1_unfold 22 = .ok (.getfield 114, 3) := by decide +kernel
theorem dX1_unfold_25 : decode cX1_unfold 25 = .ok (.iload 4, 2) := by decide +kernel
theorem dX1_unfold_27 : decode cX1_unfold 27 = .ok (.iaload, 1) := by decide +kernel
theorem dX1_unfold_28 : decode cX1_unfold 28 = .ok (.istore 5, 2) := by decide +kernel
theorem dX1_unfold_30 : decode cX1_unfold 30 = .ok (.aload_n 2, 1) := by decide +kernel
theorem dX1_unfold_31 : decode cX1_unfold 31 = .ok (.iload 4, 2) := by decide +kernel
theorem dX1_unfold_33 : decode cX1_unfold 33 = .ok (.iload 5, 2) := by decide +kernel
theorem dX1_unfold_35 : decode cX1_unfold 35 = .ok (.iastore, 1) := by decide +kernel
theorem dX1_unfold_36 : decode cX1_unfold 36 = .ok (.iload 5, 2) := by decide +kernel
theorem dX1_unfold_38 : decode cX1_unfold 38 = .ok (.iconst (-1), 1) := by decide +kernel
theorem dX1_unfold_39 : decode cX1_unfold 39 = .ok (.if_icmp .ne 27, 3) := by decide +kernel
theorem dX1_unfold_42 : decode cX1_unfold 42 = .ok (.aload_n 0, 1) := by decide +kernel
theorem dX1_unfold_43 : decode cX1_unfold 43 = .ok (.getfield 79, 3) := by decide +kernel
theorem dX1_unfold_46 : decode cX1_unfold 46 = .ok (.ifCond .le 20, 3) := by decide +kernel
theorem dX1_unfold_49 : decode cX1_unfold 49 = .ok (.aload_n 2, 1) := by decide +kernel
theorem dX1_unfold_50 : decode cX1_unfold 50 = .ok (.iload 4, 2) := by decide +kernel
theorem dX1_unfold_52 : decode cX1_unfold 52 = .ok (.iload_n 3, 1) := by decide +kernel
theorem dX1_unfold_53 : decode cX1_unfold 53 = .ok (.aload_n 0, 1) := by decide +kernel
theorem dX1_unfold_54 : decode cX1_unfold 54 = .ok (.getfield 79, 3) := by decide +kernel
theorem dX1_unfold_57 : decode cX1_unfold 57 = .ok (.irem, 1) := by decide +kernel
theorem dX1_unfold_58 : decode cX1_unfold 58 = .ok (.iastore, 1) := by decide +kernel
theorem dX1_unfold_59 : decode cX1_unfold 59 = .ok (.iload_n 3, 1) := by decide +kernel
theorem dX1_unfold_60 : decode cX1_unfold 60 = .ok (.aload_n 0, 1) := by decide +kernel
theorem dX1_unfold_61 : decode cX1_unfold 61 = .ok (.getfield 79, 3) := by decide +kernel
theorem dX1_unfold_64 : decode cX1_unfold 64 = .ok (.idiv, 1) := by decide +kernel
theorem dX1_unfold_65 : decode cX1_unfold 65 = .ok (.istore_n 3, 1) := by decide +kernel
theorem dX1_unfold_66 : decode cX1_unfold 66 = .ok (.iinc 4 (-1), 3) := by decide +kernel
theorem dX1_unfold_69 : decode cX1_unfold 69 = .ok (.goto (-56), 3) := by decide +kernel
theorem dX1_unfold_72 : decode cX1_unfold 72 = .ok (.return_, 1) := by decide +kernel
theorem dX1_keep_0 : decode cX1_keep 0 = .ok (.aload_n 0, 1) := by decide +kernel
theorem dX1_keep_1 : decode cX1_keep 1 = .ok (.getfield 68, 3) := by decide +kernel
theorem dX1_keep_4 : decode cX1_keep 4 = .ok (.aload_n 0, 1) := by decide +kernel
theorem dX1_keep_5 : decode cX1_keep 5 = .ok (.getfield 22, 3) := by decide +kernel
theorem dX1_keep_8 : decode cX1_keep 8 = .ok (.arraylength, 1) := by decide +kernel
theorem dX1_keep_9 : decode cX1_keep 9 = .ok (.if_icmp .lt 4, 3) := by decide +kernel
theorem dX1_keep_12 : decode cX1_keep 12 = .ok (.return_, 1) := by decide +kernel
theorem dX1_keep_13 : decode cX1_keep 13 = .ok (.aload_n 0, 1) := by decide +kernel
theorem dX1_keep_14 : decode cX1_keep 14 = .ok (.getfield 22, 3) := by decide +kernel
theorem dX1_keep_17 : decode cX1_keep 17 = .ok (.aload_n 0, 1) := by decide +kernel
theorem dX1_keep_18 : decode cX1_keep 18 = .ok (.getfield 68, 3) := by decide +kernel
theorem dX1_keep_21 : decode cX1_keep 21 = .ok (.iload_n 3, 1) := by decide +kernel
theorem dX1_keep_22 : decode cX1_keep 22 = .ok (.iastore, 1) := by decide +kernel
theorem dX1_keep_23 : decode cX1_keep 23 = .ok (.aload_n 0, 1) := by decide +kernel
theorem dX1_keep_24 : decode cX1_keep 24 = .ok (.getfield 68, 3) := by decide +kernel
theorem dX1_keep_27 : decode cX1_keep 27 = .ok (.aload_n 0, 1) := by decide +kernel
theorem dX1_keep_28 : decode cX1_keep 28 = .ok (.getfield 86, 3) := by decide +kernel
theorem dX1_keep_31 : decode cX1_keep 31 = .ok (.imul, 1) := by decide +kernel
theorem dX1_keep_32 : decode cX1_keep 32 = .ok (.istore 4, 2) := by decide +kernel
theorem dX1_keep_34 : decode cX1_keep 34 = .ok (.iconst 0, 1) := by decide +kernel
theorem dX1_keep_35 : decode cX1_keep 35 = .ok (.istore 5, 2) := by decide +kernel
theorem dX1_keep_37 : decode cX1_keep 37 = .ok (.iload 5, 2) := by decide +kernel
theorem dX1_keep_39 : decode cX1_keep 39 = .ok (.aload_n 1, 1) := by decide +kernel
theorem dX1_keep_40 : decode cX1_keep 40 = .ok (.getfield 48, 3) := by decide +kernel
theorem dX1_keep_43 : decode cX1_keep 43 = .ok (.getfield 54, 3) := by decide +kernel
theorem dX1_keep_46 : decode cX1_keep 46 = .ok (.if_icmp .ge 49, 3) := by decide +kernel
theorem dX1_keep_49 : decode cX1_keep 49 = .ok (.aload_n 1, 1) := by decide +kernel
theorem dX1_keep_50 : decode cX1_keep 50 = .ok (.iload 5, 2) := by decide +kernel
theorem dX1_keep_52 : decode cX1_keep 52 = .ok (.invokevirtual 117, 3) := by decide +kernel
theorem dX1_keep_55 : decode cX1_keep 55 = .ok (.ifCond .eq 34, 3) := by decide +kernel
theorem dX1_keep_58 : decode cX1_keep 58 = .ok (.iload 4, 2) := by decide +kernel
theorem dX1_keep_60 : decode cX1_keep 60 = .ok (.aload_n 0, 1) := by decide +kernel
theorem dX1_keep_61 : decode cX1_keep 61 = .ok (.getfield 25, 3) := by decide +kernel
theorem dX1_keep_64 : decode cX1_keep 64 = .ok (.arraylength, 1) := by decide +kernel
theorem dX1_keep_65 : decode cX1_keep 65 = .ok (.if_icmp .ge 24, 3) := by decide +kernel
theorem dX1_keep_68 : decode cX1_keep 68 = .ok (.aload_n 0, 1) := by decide +kernel
theorem dX1_keep_69 : decode cX1_keep 69 = .ok (.getfield 25, 3) := by decide +kernel
theorem dX1_keep_72 : decode cX1_keep 72 = .ok (.iload 4, 2) := by decide +kernel
theorem dX1_keep_74 : decode cX1_keep 74 = .ok (.aload_n 0, 1) := by decide +kernel
theorem dX1_keep_75 : decode cX1_keep 75 = .ok (.getfield 12, 3) := by decide +kernel
theorem dX1_keep_78 : decode cX1_keep 78 = .ok (.getfield 121, 3) := by decide +kernel
theorem dX1_keep_81 : decode cX1_keep 81 = .ok (.iload 5, 2) := by decide +kernel
theorem dX1_keep_83 : decode cX1_keep 83 = .ok (.laload, 1) := by decide +kernel
theorem dX1_keep_84 : decode cX1_keep 84 = .ok (.l2i, 1) := by decide +kernel
theorem dX1_keep_85 : decode cX1_keep 85 = .ok (.iastore, 1) := by decide +kernel
theorem dX1_keep_86 : decode cX1_keep 86 = .ok (.iinc 4 1, 3) := by decide +kernel
theorem dX1_keep_89 : decode cX1_keep 89 = .ok (.iinc 5 1, 3) := by decide +kernel
theorem dX1_keep_92 : decode cX1_keep 92 = .ok (.goto (-55), 3) := by decide +kernel
theorem dX1_keep_95 : decode cX1_keep 95 = .ok (.aload_n 0, 1) := by decide +kernel
theorem dX1_keep_96 : decode cX1_keep 96 = .ok (.getfield 28, 3) := by decide +kernel
theorem dX1_keep_99 : decode cX1_keep 99 = .ok (.iconst (-1), 1) := by decide +kernel
theorem dX1_keep_100 : decode cX1_keep 100 = .ok (.if_icmp .eq 11, 3) := by decide +kernel
theorem dX1_keep_103 : decode cX1_keep 103 = .ok (.iload_n 3, 1) := by decide +kernel
theorem dX1_keep_104 : decode cX1_keep 104 = .ok (.aload_n 0, 1) := by decide +kernel
theorem dX1_keep_105 : decode cX1_keep 105 = .ok (.getfield 124, 3) := by decide +kernel
theorem dX1_keep_108 : decode cX1_keep 108 = .ok (.if_icmp .ge 13, 3) := by decide +kernel
theorem dX1_keep_111 : decode cX1_keep 111 = .ok (.aload_n 0, 1) := by decide +kernel
theorem dX1_keep_112 : decode cX1_keep 112 = .ok (.iload_n 2, 1) := by decide +kernel
theorem dX1_keep_113 : decode cX1_keep 113 = .ok (.putfield 28, 3) := by decide +kernel
theorem dX1_keep_116 : decode cX1_keep 116 = .ok (.aload_n 0, 1) := by decide +kernel
theorem dX1_keep_117 : decode cX1_keep 117 = .ok (.iload_n 3, 1) := by decide +kernel
theorem dX1_keep_118 : decode cX1_keep 118 = .ok (.putfield 124, 3) := by decide +kernel
theorem dX1_keep_121 : decode cX1_keep 121 = .ok (.aload_n 0, 1) := by decide +kernel
theorem dX1_keep_122 : decode cX1_keep 122 = .ok (.dup, 1) := by decide +kernel
theorem dX1_keep_123 : decode cX1_keep 123 = .ok (.getfield 68, 3) := by decide +kernel
theorem dX1_keep_126 : decode cX1_keep 126 = .ok (.iconst 1, 1) := by decide +kernel
theorem dX1_keep_127 : decode cX1_keep 127 = .ok (.iadd, 1) := by decide +kernel
theorem dX1_keep_128 : decode cX1_keep 128 = .ok (.putfield 68, 3) := by decide +kernel
theorem dX1_keep_131 : decode cX1_keep 131 = .ok (.return_, 1) := by decide +kernel
theorem dX1_errorAt_0 : decode cX1_errorAt 0 = .ok (.iload_n 1, 1) := by decide +kernel
theorem dX1_errorAt_1 : decode cX1_errorAt 1 = .ok (.aload_n 0, 1) := by decide +kernel
theorem dX1_errorAt_2 : decode cX1_errorAt 2 = .ok (.getfield 86, 3) := by decide +kernel
theorem dX1_errorAt_5 : decode cX1_errorAt 5 = .ok (.imul, 1) := by decide +kernel
theorem dX1_errorAt_6 : decode cX1_errorAt 6 = .ok (.iload_n 2, 1) := by decide +kernel
theorem dX1_errorAt_7 : decode cX1_errorAt 7 = .ok (.iadd, 1) := by decide +kernel
theorem dX1_errorAt_8 : decode cX1_errorAt 8 = .ok (.istore_n 3, 1) := by decide +kernel
theorem dX1_errorAt_9 : decode cX1_errorAt 9 = .ok (.iload_n 3, 1) := by decide +kernel
theorem dX1_errorAt_10 : decode cX1_errorAt 10 = .ok (.ifCond .lt 21, 3) := by decide +kernel
theorem dX1_errorAt_13 : decode cX1_errorAt 13 = .ok (.iload_n 3, 1) := by decide +kernel
theorem dX1_errorAt_14 : decode cX1_errorAt 14 = .ok (.aload_n 0, 1) := by decide +kernel
theorem dX1_errorAt_15 : decode cX1_errorAt 15 = .ok (.getfield 25, 3) := by decide +kernel
theorem dX1_errorAt_18 : decode cX1_errorAt 18 = .ok (.arraylength, 1) := by decide +kernel
theorem dX1_errorAt_19 : decode cX1_errorAt 19 = .ok (.if_icmp .ge 12, 3) := by decide +kernel
theorem dX1_errorAt_22 : decode cX1_errorAt 22 = .ok (.aload_n 0, 1) := by decide +kernel
theorem dX1_errorAt_23 : decode cX1_errorAt 23 = .ok (.getfield 25, 3) := by decide +kernel
theorem dX1_errorAt_26 : decode cX1_errorAt 26 = .ok (.iload_n 3, 1) := by decide +kernel
theorem dX1_errorAt_27 : decode cX1_errorAt 27 = .ok (.iaload, 1) := by decide +kernel
theorem dX1_errorAt_28 : decode cX1_errorAt 28 = .ok (.goto 5, 3) := by decide +kernel
theorem dX1_errorAt_31 : decode cX1_errorAt 31 = .ok (.ldc 127, 2) := by decide +kernel
theorem dX1_errorAt_33 : decode cX1_errorAt 33 = .ok (.ireturn, 1) := by decide +kernel
theorem dX1_leastWithin_0 : decode cX1_leastWithin 0 = .ok (.aload_n 1, 1) := by decide +kernel
theorem dX1_leastWithin_1 : decode cX1_leastWithin 1 = .ok (.getfield 48, 3) := by decide +kernel
theorem dX1_leastWithin_4 : decode cX1_leastWithin 4 = .ok (.iload_n 2, 1) := by decide +kernel
theorem dX1_leastWithin_5 : decode cX1_leastWithin 5 = .ok (.invokevirtual 82, 3) := by decide +kernel
theorem dX1_leastWithin_8 : decode cX1_leastWithin 8 = .ok (.istore 4, 2) := by decide +kernel
theorem dX1_leastWithin_10 : decode cX1_leastWithin 10 = .ok (.ldc2_w 128, 3) := by decide +kernel
theorem dX1_leastWithin_13 : decode cX1_leastWithin 13 = .ok (.lstore 5, 2) := by decide +kernel
theorem dX1_leastWithin_15 : decode cX1_leastWithin 15 = .ok (.iconst 0, 1) := by decide +kernel
theorem dX1_leastWithin_16 : decode cX1_leastWithin 16 = .ok (.istore 7, 2) := by decide +kernel
theorem dX1_leastWithin_18 : decode cX1_leastWithin 18 = .ok (.iload 7, 2) := by decide +kernel
theorem dX1_leastWithin_20 : decode cX1_leastWithin 20 = .ok (.aload_n 0, 1) := by decide +kernel
theorem dX1_leastWithin_21 : decode cX1_leastWithin 21 = .ok (.getfield 68, 3) := by decide +kernel
theorem dX1_leastWithin_24 : decode cX1_leastWithin 24 = .ok (.if_icmp .ge 55, 3) := by decide +kernel
theorem dX1_leastWithin_27 : decode cX1_leastWithin 27 = .ok (.aload_n 0, 1) := by decide +kernel
theorem dX1_leastWithin_28 : decode cX1_leastWithin 28 = .ok (.getfield 22, 3) := by decide +kernel
theorem dX1_leastWithin_31 : decode cX1_leastWithin 31 = .ok (.iload 7, 2) := by decide +kernel
theorem dX1_leastWithin_33 : decode cX1_leastWithin 33 = .ok (.iaload, 1) := by decide +kernel
theorem dX1_leastWithin_34 : decode cX1_leastWithin 34 = .ok (.iload_n 3, 1) := by decide +kernel
theorem dX1_leastWithin_35 : decode cX1_leastWithin 35 = .ok (.if_icmp .gt 38, 3) := by decide +kernel
theorem dX1_leastWithin_38 : decode cX1_leastWithin 38 = .ok (.lload 5, 2) := by decide +kernel
theorem dX1_leastWithin_40 : decode cX1_leastWithin 40 = .ok (.ldc2_w 128, 3) := by decide +kernel
theorem dX1_leastWithin_43 : decode cX1_leastWithin 43 = .ok (.lcmp, 1) := by decide +kernel
theorem dX1_leastWithin_44 : decode cX1_leastWithin 44 = .ok (.ifCond .eq 18, 3) := by decide +kernel
theorem dX1_leastWithin_47 : decode cX1_leastWithin 47 = .ok (.aload_n 0, 1) := by decide +kernel
theorem dX1_leastWithin_48 : decode cX1_leastWithin 48 = .ok (.iload 7, 2) := by decide +kernel
theorem dX1_leastWithin_50 : decode cX1_leastWithin 50 = .ok (.iload 4, 2) := by decide +kernel
theorem dX1_leastWithin_52 : decode cX1_leastWithin 52 = .ok (.invokevirtual 130, 3) := by decide +kernel
theorem dX1_leastWithin_55 : decode cX1_leastWithin 55 = .ok (.i2l, 1) := by decide +kernel
theorem dX1_leastWithin_56 : decode cX1_leastWithin 56 = .ok (.lload 5, 2) := by decide +kernel
theorem dX1_leastWithin_58 : decode cX1_leastWithin 58 = .ok (.lcmp, 1) := by decide +kernel
theorem dX1_leastWithin_59 : decode cX1_leastWithin 59 = .ok (.ifCond .ge 14, 3) := by decide +kernel
theorem dX1_leastWithin_62 : decode cX1_leastWithin 62 = .ok (.aload_n 0, 1) := by decide +kernel
theorem dX1_leastWithin_63 : decode cX1_leastWithin 63 = .ok (.iload 7, 2) := by decide +kernel
theorem dX1_leastWithin_65 : decode cX1_leastWithin 65 = .ok (.iload 4, 2) := by decide +kernel
theorem dX1_leastWithin_67 : decode cX1_leastWithin 67 = .ok (.invokevirtual 130, 3) := by decide +kernel
theorem dX1_leastWithin_70 : decode cX1_leastWithin 70 = .ok (.i2l, 1) := by decide +kernel
theorem dX1_leastWithin_71 : decode cX1_leastWithin 71 = .ok (.lstore 5, 2) := by decide +kernel
theorem dX1_leastWithin_73 : decode cX1_leastWithin 73 = .ok (.iinc 7 1, 3) := by decide +kernel
theorem dX1_leastWithin_76 : decode cX1_leastWithin 76 = .ok (.goto (-58), 3) := by decide +kernel
theorem dX1_leastWithin_79 : decode cX1_leastWithin 79 = .ok (.lload 5, 2) := by decide +kernel
theorem dX1_leastWithin_81 : decode cX1_leastWithin 81 = .ok (.lreturn, 1) := by decide +kernel
theorem dX1_drawFront_0 : decode cX1_drawFront 0 = .ok (.aload_n 0, 1) := by decide +kernel
theorem dX1_drawFront_1 : decode cX1_drawFront 1 = .ok (.getfield 32, 3) := by decide +kernel
theorem dX1_drawFront_4 : decode cX1_drawFront 4 = .ok (.iload_n 2, 1) := by decide +kernel
theorem dX1_drawFront_5 : decode cX1_drawFront 5 = .ok (.if_icmp .ne 4, 3) := by decide +kernel
theorem dX1_drawFront_8 : decode cX1_drawFront 8 = .ok (.return_, 1) := by decide +kernel
theorem dX1_drawFront_9 : decode cX1_drawFront 9 = .ok (.aload_n 0, 1) := by decide +kernel
theorem dX1_drawFront_10 : decode cX1_drawFront 10 = .ok (.iload_n 2, 1) := by decide +kernel
theorem dX1_drawFront_11 : decode cX1_drawFront 11 = .ok (.putfield 32, 3) := by decide +kernel
theorem dX1_drawFront_14 : decode cX1_drawFront 14 = .ok (.aload_n 0, 1) := by decide +kernel
theorem dX1_drawFront_15 : decode cX1_drawFront 15 = .ok (.iconst 0, 1) := by decide +kernel
theorem dX1_drawFront_16 : decode cX1_drawFront 16 = .ok (.putfield 134, 3) := by decide +kernel
theorem dX1_drawFront_19 : decode cX1_drawFront 19 = .ok (.aload_n 1, 1) := by decide +kernel
theorem dX1_drawFront_20 : decode cX1_drawFront 20 = .ok (.getfield 48, 3) := by decide +kernel
theorem dX1_drawFront_23 : decode cX1_drawFront 23 = .ok (.iload_n 2, 1) := by decide +kernel
theorem dX1_drawFront_24 : decode cX1_drawFront 24 = .ok (.invokevirtual 82, 3) := by decide +kernel
theorem dX1_drawFront_27 : decode cX1_drawFront 27 = .ok (.istore_n 3, 1) := by decide +kernel
theorem dX1_drawFront_28 : decode cX1_drawFront 28 = .ok (.ldc 127, 2) := by decide +kernel
theorem dX1_drawFront_30 : decode cX1_drawFront 30 = .ok (.istore 4, 2) := by decide +kernel
theorem dX1_drawFront_32 : decode cX1_drawFront 32 = .ok (.iconst 0, 1) := by decide +kernel
theorem dX1_drawFront_33 : decode cX1_drawFront 33 = .ok (.istore 5, 2) := by decide +kernel
theorem dX1_drawFront_35 : decode cX1_drawFront 35 = .ok (.iload 5, 2) := by decide +kernel
theorem dX1_drawFront_37 : decode cX1_drawFront 37 = .ok (.aload_n 0, 1) := by decide +kernel
theorem dX1_drawFront_38 : decode cX1_drawFront 38 = .ok (.getfield 68, 3) := by decide +kernel
theorem dX1_drawFront_41 : decode cX1_drawFront 41 = .ok (.if_icmp .ge 88, 3) := by decide +kernel
theorem dX1_drawFront_44 : decode cX1_drawFront 44 = .ok (.aload_n 0, 1) := by decide +kernel
theorem dX1_drawFront_45 : decode cX1_drawFront 45 = .ok (.iload_n 3, 1) := by decide +kernel
theorem dX1_drawFront_46 : decode cX1_drawFront 46 = .ok (.iload 4, 2) := by decide +kernel
theorem dX1_drawFront_48 : decode cX1_drawFront 48 = .ok (.invokevirtual 137, 3) := by decide +kernel
theorem dX1_drawFront_51 : decode cX1_drawFront 51 = .ok (.istore 6, 2) := by decide +kernel
theorem dX1_drawFront_53 : decode cX1_drawFront 53 = .ok (.iload 6, 2) := by decide +kernel
theorem dX1_drawFront_55 : decode cX1_drawFront 55 = .ok (.iconst (-1), 1) := by decide +kernel
theorem dX1_drawFront_56 : decode cX1_drawFront 56 = .ok (.if_icmp .ne 4, 3) := by decide +kernel
theorem dX1_drawFront_59 : decode cX1_drawFront 59 = .ok (.return_, 1) := by decide +kernel
theorem dX1_drawFront_60 : decode cX1_drawFront 60 = .ok (.aload_n 0, 1) := by decide +kernel
theorem dX1_drawFront_61 : decode cX1_drawFront 61 = .ok (.iload 6, 2) := by decide +kernel
theorem dX1_drawFront_63 : decode cX1_drawFront 63 = .ok (.iload_n 3, 1) := by decide +kernel
theorem dX1_drawFront_64 : decode cX1_drawFront 64 = .ok (.invokevirtual 130, 3) := by decide +kernel
theorem dX1_drawFront_67 : decode cX1_drawFront 67 = .ok (.istore 4, 2) := by decide +kernel
theorem dX1_drawFront_69 : decode cX1_drawFront 69 = .ok (.aload_n 0, 1) := by decide +kernel
theorem dX1_drawFront_70 : decode cX1_drawFront 70 = .ok (.getfield 35, 3) := by decide +kernel
theorem dX1_drawFront_73 : decode cX1_drawFront 73 = .ok (.iload 5, 2) := by decide +kernel
theorem dX1_drawFront_75 : decode cX1_drawFront 75 = .ok (.aload_n 0, 1) := by decide +kernel
theorem dX1_drawFront_76 : decode cX1_drawFront 76 = .ok (.getfield 22, 3) := by decide +kernel
theorem dX1_drawFront_79 : decode cX1_drawFront 79 = .ok (.iload 6, 2) := by decide +kernel
theorem dX1_drawFront_81 : decode cX1_drawFront 81 = .ok (.iaload, 1) := by decide +kernel
theorem dX1_drawFront_82 : decode cX1_drawFront 82 = .ok (.iastore, 1) := by decide +kernel
theorem dX1_drawFront_83 : decode cX1_drawFront 83 = .ok (.aload_n 0, 1) := by decide +kernel
theorem dX1_drawFront_84 : decode cX1_drawFront 84 = .ok (.getfield 38, 3) := by decide +kernel
theorem dX1_drawFront_87 : decode cX1_drawFront 87 = .ok (.iload 5, 2) := by decide +kernel
theorem dX1_drawFront_89 : decode cX1_drawFront 89 = .ok (.iload 4, 2) := by decide +kernel
theorem dX1_drawFront_91 : decode cX1_drawFront 91 = .ok (.iastore, 1) := by decide +kernel
theorem dX1_drawFront_92 : decode cX1_drawFront 92 = .ok (.aload_n 0, 1) := by decide +kernel
theorem dX1_drawFront_93 : decode cX1_drawFront 93 = .ok (.getfield 41, 3) := by decide +kernel
theorem dX1_drawFront_96 : decode cX1_drawFront 96 = .ok (.iload 5, 2) := by decide +kernel
theorem dX1_drawFront_98 : decode cX1_drawFront 98 = .ok (.aload_n 0, 1) := by decide +kernel
theorem dX1_drawFront_99 : decode cX1_drawFront 99 = .ok (.iload_n 3, 1) := by decide +kernel
theorem dX1_drawFront_100 : decode cX1_drawFront 100 = .ok (.aload_n 0, 1) := by decide +kernel
theorem dX1_drawFront_101 : decode cX1_drawFront 101 = .ok (.getfield 22, 3) := by decide +kernel
theorem dX1_drawFront_104 : decode cX1_drawFront 104 = .ok (.iload 6, 2) := by decide +kernel
theorem dX1_drawFront_106 : decode cX1_drawFront 106 = .ok (.iaload, 1) := by decide +kernel
theorem dX1_drawFront_107 : decode cX1_drawFront 107 = .ok (.iload 4, 2) := by decide +kernel
theorem dX1_drawFront_109 : decode cX1_drawFront 109 = .ok (.invokevirtual 140, 3) := by decide +kernel
theorem dX1_drawFront_112 : decode cX1_drawFront 112 = .ok (.iastore, 1) := by decide +kernel
theorem dX1_drawFront_113 : decode cX1_drawFront 113 = .ok (.aload_n 0, 1) := by decide +kernel
theorem dX1_drawFront_114 : decode cX1_drawFront 114 = .ok (.dup, 1) := by decide +kernel
theorem dX1_drawFront_115 : decode cX1_drawFront 115 = .ok (.getfield 134, 3) := by decide +kernel
theorem dX1_drawFront_118 : decode cX1_drawFront 118 = .ok (.iconst 1, 1) := by decide +kernel
theorem dX1_drawFront_119 : decode cX1_drawFront 119 = .ok (.iadd, 1) := by decide +kernel
theorem dX1_drawFront_120 : decode cX1_drawFront 120 = .ok (.putfield 134, 3) := by decide +kernel
theorem dX1_drawFront_123 : decode cX1_drawFront 123 = .ok (.iinc 5 1, 3) := by decide +kernel
theorem dX1_drawFront_126 : decode cX1_drawFront 126 = .ok (.goto (-91), 3) := by decide +kernel
theorem dX1_drawFront_129 : decode cX1_drawFront 129 = .ok (.return_, 1) := by decide +kernel
theorem dX1_cheapestBelow_0 : decode cX1_cheapestBelow 0 = .ok (.iconst (-1), 1) := by decide +kernel
theorem dX1_cheapestBelow_1 : decode cX1_cheapestBelow 1 = .ok (.istore_n 3, 1) := by decide +kernel
theorem dX1_cheapestBelow_2 : decode cX1_cheapestBelow 2 = .ok (.iconst 0, 1) := by decide +kernel
theorem dX1_cheapestBelow_3 : decode cX1_cheapestBelow 3 = .ok (.istore 4, 2) := by decide +kernel
theorem dX1_cheapestBelow_5 : decode cX1_cheapestBelow 5 = .ok (.iload 4, 2) := by decide +kernel
theorem dX1_cheapestBelow_7 : decode cX1_cheapestBelow 7 = .ok (.aload_n 0, 1) := by decide +kernel
theorem dX1_cheapestBelow_8 : decode cX1_cheapestBelow 8 = .ok (.getfield 68, 3) := by decide +kernel
theorem dX1_cheapestBelow_11 : decode cX1_cheapestBelow 11 = .ok (.if_icmp .ge 75, 3) := by decide +kernel
theorem dX1_cheapestBelow_14 : decode cX1_cheapestBelow 14 = .ok (.aload_n 0, 1) := by decide +kernel
theorem dX1_cheapestBelow_15 : decode cX1_cheapestBelow 15 = .ok (.iload 4, 2) := by decide +kernel
theorem dX1_cheapestBelow_17 : decode cX1_cheapestBelow 17 = .ok (.iload_n 1, 1) := by decide +kernel
theorem dX1_cheapestBelow_18 : decode cX1_cheapestBelow 18 = .ok (.invokevirtual 130, 3) := by decide +kernel
theorem dX1_cheapestBelow_21 : decode cX1_cheapestBelow 21 = .ok (.istore 5, 2) := by decide +kernel
theorem dX1_cheapestBelow_23 : decode cX1_cheapestBelow 23 = .ok (.iload 5, 2) := by decide +kernel
theorem dX1_cheapestBelow_25 : decode cX1_cheapestBelow 25 = .ok (.iload_n 2, 1) := by decide +kernel
theorem dX1_cheapestBelow_26 : decode cX1_cheapestBelow 26 = .ok (.if_icmp .ge 54, 3) := by decide +kernel
theorem dX1_cheapestBelow_29 : decode cX1_cheapestBelow 29 = .ok (.iload_n 3, 1) := by decide +kernel
theorem dX1_cheapestBelow_30 : decode cX1_cheapestBelow 30 = .ok (.iconst (-1), 1) := by decide +kernel
theorem dX1_cheapestBelow_31 : decode cX1_cheapestBelow 31 = .ok (.if_icmp .eq 46, 3) := by decide +kernel
theorem dX1_cheapestBelow_34 : decode cX1_cheapestBelow 34 = .ok (.aload_n 0, 1) := by decide +kernel
theorem dX1_cheapestBelow_35 : decode cX1_cheapestBelow 35 = .ok (.getfield 22, 3) := by decide +kernel
theorem dX1_cheapestBelow_38 : decode cX1_cheapestBelow 38 = .ok (.iload 4, 2) := by decide +kernel
theorem dX1_cheapestBelow_40 : decode cX1_cheapestBelow 40 = .ok (.iaload, 1) := by decide +kernel
theorem dX1_cheapestBelow_41 : decode cX1_cheapestBelow 41 = .ok (.aload_n 0, 1) := by decide +kernel
theorem dX1_cheapestBelow_42 : decode cX1_cheapestBelow 42 = .ok (.getfield 22, 3) := by decide +kernel
theorem dX1_cheapestBelow_45 : decode cX1_cheapestBelow 45 = .ok (.iload_n 3, 1) := by decide +kernel
theorem dX1_cheapestBelow_46 : decode cX1_cheapestBelow 46 = .ok (.iaload, 1) := by decide +kernel
theorem dX1_cheapestBelow_47 : decode cX1_cheapestBelow 47 = .ok (.if_icmp .lt 30, 3) := by decide +kernel
theorem dX1_cheapestBelow_50 : decode cX1_cheapestBelow 50 = .ok (.aload_n 0, 1) := by decide +kernel
theorem dX1_cheapestBelow_51 : decode cX1_cheapestBelow 51 = .ok (.getfield 22, 3) := by decide +kernel
theorem dX1_cheapestBelow_54 : decode cX1_cheapestBelow 54 = .ok (.iload 4, 2) := by decide +kernel
theorem dX1_cheapestBelow_56 : decode cX1_cheapestBelow 56 = .ok (.iaload, 1) := by decide +kernel
theorem dX1_cheapestBelow_57 : decode cX1_cheapestBelow 57 = .ok (.aload_n 0, 1) := by decide +kernel
theorem dX1_cheapestBelow_58 : decode cX1_cheapestBelow 58 = .ok (.getfield 22, 3) := by decide +kernel
theorem dX1_cheapestBelow_61 : decode cX1_cheapestBelow 61 = .ok (.iload_n 3, 1) := by decide +kernel
theorem dX1_cheapestBelow_62 : decode cX1_cheapestBelow 62 = .ok (.iaload, 1) := by decide +kernel
theorem dX1_cheapestBelow_63 : decode cX1_cheapestBelow 63 = .ok (.if_icmp .ne 17, 3) := by decide +kernel
theorem dX1_cheapestBelow_66 : decode cX1_cheapestBelow 66 = .ok (.iload 5, 2) := by decide +kernel
theorem dX1_cheapestBelow_68 : decode cX1_cheapestBelow 68 = .ok (.aload_n 0, 1) := by decide +kernel
theorem dX1_cheapestBelow_69 : decode cX1_cheapestBelow 69 = .ok (.iload_n 3, 1) := by decide +kernel
theorem dX1_cheapestBelow_70 : decode cX1_cheapestBelow 70 = .ok (.iload_n 1, 1) := by decide +kernel
theorem dX1_cheapestBelow_71 : decode cX1_cheapestBelow 71 = .ok (.invokevirtual 130, 3) := by decide +kernel
theorem dX1_cheapestBelow_74 : decode cX1_cheapestBelow 74 = .ok (.if_icmp .ge 6, 3) := by decide +kernel
theorem dX1_cheapestBelow_77 : decode cX1_cheapestBelow 77 = .ok (.iload 4, 2) := by decide +kernel
theorem dX1_cheapestBelow_79 : decode cX1_cheapestBelow 79 = .ok (.istore_n 3, 1) := by decide +kernel
theorem dX1_cheapestBelow_80 : decode cX1_cheapestBelow 80 = .ok (.iinc 4 1, 3) := by decide +kernel
theorem dX1_cheapestBelow_83 : decode cX1_cheapestBelow 83 = .ok (.goto (-78), 3) := by decide +kernel
theorem dX1_cheapestBelow_86 : decode cX1_cheapestBelow 86 = .ok (.iload_n 3, 1) := by decide +kernel
theorem dX1_cheapestBelow_87 : decode cX1_cheapestBelow 87 = .ok (.ireturn, 1) := by decide +kernel
theorem dX1_countAlike_0 : decode cX1_countAlike 0 = .ok (.iconst 0, 1) := by decide +kernel
theorem dX1_countAlike_1 : decode cX1_countAlike 1 = .ok (.istore 4, 2) := by decide +kernel
theorem dX1_countAlike_3 : decode cX1_countAlike 3 = .ok (.iconst 0, 1) := by decide +kernel
theorem dX1_countAlike_4 : decode cX1_countAlike 4 = .ok (.istore 5, 2) := by decide +kernel
theorem dX1_countAlike_6 : decode cX1_countAlike 6 = .ok (.iload 5, 2) := by decide +kernel
theorem dX1_countAlike_8 : decode cX1_countAlike 8 = .ok (.aload_n 0, 1) := by decide +kernel
theorem dX1_countAlike_9 : decode cX1_countAlike 9 = .ok (.getfield 68, 3) := by decide +kernel
theorem dX1_countAlike_12 : decode cX1_countAlike 12 = .ok (.if_icmp .ge 41, 3) := by decide +kernel
theorem dX1_countAlike_15 : decode cX1_countAlike 15 = .ok (.iload 4, 2) := by decide +kernel
theorem dX1_countAlike_17 : decode cX1_countAlike 17 = .ok (.aload_n 0, 1) := by decide +kernel
theorem dX1_countAlike_18 : decode cX1_countAlike 18 = .ok (.getfield 22, 3) := by decide +kernel
theorem dX1_countAlike_21 : decode cX1_countAlike 21 = .ok (.iload 5, 2) := by decide +kernel
theorem dX1_countAlike_23 : decode cX1_countAlike 23 = .ok (.iaload, 1) := by decide +kernel
theorem dX1_countAlike_24 : decode cX1_countAlike 24 = .ok (.iload_n 2, 1) := by decide +kernel
theorem dX1_countAlike_25 : decode cX1_countAlike 25 = .ok (.if_icmp .ne 18, 3) := by decide +kernel
theorem dX1_countAlike_28 : decode cX1_countAlike 28 = .ok (.aload_n 0, 1) := by decide +kernel
theorem dX1_countAlike_29 : decode cX1_countAlike 29 = .ok (.iload 5, 2) := by decide +kernel
theorem dX1_countAlike_31 : decode cX1_countAlike 31 = .ok (.iload_n 1, 1) := by decide +kernel
theorem dX1_countAlike_32 : decode cX1_countAlike 32 = .ok (.invokevirtual 130, 3) := by decide +kernel
theorem dX1_countAlike_35 : decode cX1_countAlike 35 = .ok (.iload_n 3, 1) := by decide +kernel
theorem dX1_countAlike_36 : decode cX1_countAlike 36 = .ok (.if_icmp .ne 7, 3) := by decide +kernel
theorem dX1_countAlike_39 : decode cX1_countAlike 39 = .ok (.iconst 1, 1) := by decide +kernel
theorem dX1_countAlike_40 : decode cX1_countAlike 40 = .ok (.goto 4, 3) := by decide +kernel
theorem dX1_countAlike_43 : decode cX1_countAlike 43 = .ok (.iconst 0, 1) := by decide +kernel
theorem dX1_countAlike_44 : decode cX1_countAlike 44 = .ok (.iadd, 1) := by decide +kernel
theorem dX1_countAlike_45 : decode cX1_countAlike 45 = .ok (.istore 4, 2) := by decide +kernel
theorem dX1_countAlike_47 : decode cX1_countAlike 47 = .ok (.iinc 5 1, 3) := by decide +kernel
theorem dX1_countAlike_50 : decode cX1_countAlike 50 = .ok (.goto (-44), 3) := by decide +kernel
theorem dX1_countAlike_53 : decode cX1_countAlike 53 = .ok (.iload 4, 2) := by decide +kernel
theorem dX1_countAlike_55 : decode cX1_countAlike 55 = .ok (.ireturn, 1) := by decide +kernel
theorem dX2_init_0 : decode cX2_init 0 = .ok (.aload_n 0, 1) := by decide +kernel
theorem dX2_init_1 : decode cX2_init 1 = .ok (.invokespecial 3, 3) := by decide +kernel
theorem dX2_init_4 : decode cX2_init 4 = .ok (.aload_n 0, 1) := by decide +kernel
theorem dX2_init_5 : decode cX2_init 5 = .ok (.bipush 14, 2) := by decide +kernel
theorem dX2_init_7 : decode cX2_init 7 = .ok (.newarray .int, 2) := by decide +kernel
theorem dX2_init_9 : decode cX2_init 9 = .ok (.putfield 9, 3) := by decide +kernel
theorem dX2_init_12 : decode cX2_init 12 = .ok (.aload_n 0, 1) := by decide +kernel
theorem dX2_init_13 : decode cX2_init 13 = .ok (.bipush 14, 2) := by decide +kernel
theorem dX2_init_15 : decode cX2_init 15 = .ok (.newarray .int, 2) := by decide +kernel
theorem dX2_init_17 : decode cX2_init 17 = .ok (.putfield 15, 3) := by decide +kernel
theorem dX2_init_20 : decode cX2_init 20 = .ok (.aload_n 0, 1) := by decide +kernel
theorem dX2_init_21 : decode cX2_init 21 = .ok (.bipush 14, 2) := by decide +kernel
theorem dX2_init_23 : decode cX2_init 23 = .ok (.newarray .int, 2) := by decide +kernel
theorem dX2_init_25 : decode cX2_init 25 = .ok (.putfield 18, 3) := by decide +kernel
theorem dX2_init_28 : decode cX2_init 28 = .ok (.return_, 1) := by decide +kernel
theorem dX2_gather_0 : decode cX2_gather 0 = .ok (.aload_n 0, 1) := by decide +kernel
theorem dX2_gather_1 : decode cX2_gather 1 = .ok (.iconst 0, 1) := by decide +kernel
theorem dX2_gather_2 : decode cX2_gather 2 = .ok (.putfield 21, 3) := by decide +kernel
theorem dX2_gather_5 : decode cX2_gather 5 = .ok (.aload_n 0, 1) := by decide +kernel
theorem dX2_gather_6 : decode cX2_gather 6 = .ok (.iconst 0, 1) := by decide +kernel
theorem dX2_gather_7 : decode cX2_gather 7 = .ok (.putfield 25, 3) := by decide +kernel
theorem dX2_gather_10 : decode cX2_gather 10 = .ok (.iconst 0, 1) := by decide +kernel
theorem dX2_gather_11 : decode cX2_gather 11 = .ok (.istore_n 2, 1) := by decide +kernel
theorem dX2_gather_12 : decode cX2_gather 12 = .ok (.iload_n 2, 1) := by decide +kernel
theorem dX2_gather_13 : decode cX2_gather 13 = .ok (.aload_n 1, 1) := by decide +kernel
theorem dX2_gather_14 : decode cX2_gather 14 = .ok (.getfield 29, 3) := by decide +kernel
theorem dX2_gather_17 : decode cX2_gather 17 = .ok (.if_icmp .ge 87, 3) := by decide +kernel
theorem dX2_gather_20 : decode cX2_gather 20 = .ok (.aload_n 0, 1) := by decide +kernel
theorem dX2_gather_21 : decode cX2_gather 21 = .ok (.getfield 9, 3) := by decide +kernel
theorem dX2_gather_24 : decode cX2_gather 24 = .ok (.iload_n 2, 1) := by decide +kernel
theorem dX2_gather_25 : decode cX2_gather 25 = .ok (.aload_n 0, 1) := by decide +kernel
theorem dX2_gather_26 : decode cX2_gather 26 = .ok (.aload_n 1, 1) := by decide +kernel
theorem dX2_gather_27 : decode cX2_gather 27 = .ok (.iload_n 2, 1) := by decide +kernel
theorem dX2_gather_28 : decode cX2_gather 28 = .ok (.invokevirtual 32, 3) := by decide +kernel
theorem dX2_gather_31 : decode cX2_gather 31 = .ok (.iastore, 1) := by decide +kernel
theorem dX2_gather_32 : decode cX2_gather 32 = .ok (.aload_n 0, 1) := by decide +kernel
theorem dX2_gather_33 : decode cX2_gather 33 = .ok (.getfield 9, 3) := by decide +kernel
theorem dX2_gather_36 : decode cX2_gather 36 = .ok (.iload_n 2, 1) := by decide +kernel
theorem dX2_gather_37 : decode cX2_gather 37 = .ok (.iaload, 1) := by decide +kernel
theorem dX2_gather_38 : decode cX2_gather 38 = .ok (.iconst (-1), 1) := by decide +kernel
theorem dX2_gather_39 : decode cX2_gather 39 = .ok (.if_icmp .ne 43, 3) := by decide +kernel
theorem dX2_gather_42 : decode cX2_gather 42 = .ok (.aload_n 0, 1) := by decide +kernel
theorem dX2_gather_43 : decode cX2_gather 43 = .ok (.getfield 9, 3) := by decide +kernel
theorem dX2_gather_46 : decode cX2_gather 46 = .ok (.iload_n 2, 1) := by decide +kernel
theorem dX2_gather_47 : decode cX2_gather 47 = .ok (.aload_n 0, 1) := by decide +kernel
theorem dX2_gather_48 : decode cX2_gather 48 = .ok (.getfield 21, 3) := by decide +kernel
theorem dX2_gather_51 : decode cX2_gather 51 = .ok (.iastore, 1) := by decide +kernel
theorem dX2_gather_52 : decode cX2_gather 52 = .ok (.aload_n 0, 1) := by decide +kernel
theorem dX2_gather_53 : decode cX2_gather 53 = .ok (.getfield 18, 3) := by decide +kernel
theorem dX2_gather_56 : decode cX2_gather 56 = .ok (.aload_n 0, 1) := by decide +kernel
theorem dX2_gather_57 : decode cX2_gather 57 = .ok (.getfield 21, 3) := by decide +kernel
theorem dX2_gather_60 : decode cX2_gather 60 = .ok (.iload_n 2, 1) := by decide +kernel
theorem dX2_gather_61 : decode cX2_gather 61 = .ok (.iastore, 1) := by decide +kernel
theorem dX2_gather_62 : decode cX2_gather 62 = .ok (.aload_n 0, 1) := by decide +kernel
theorem dX2_gather_63 : decode cX2_gather 63 = .ok (.getfield 15, 3) := by decide +kernel
theorem dX2_gather_66 : decode cX2_gather 66 = .ok (.aload_n 0, 1) := by decide +kernel
theorem dX2_gather_67 : decode cX2_gather 67 = .ok (.getfield 21, 3) := by decide +kernel
theorem dX2_gather_70 : decode cX2_gather 70 = .ok (.iconst (-1), 1) := by decide +kernel
theorem dX2_gather_71 : decode cX2_gather 71 = .ok (.iastore, 1) := by decide +kernel
theorem dX2_gather_72 : decode cX2_gather 72 = .ok (.aload_n 0, 1) := by decide +kernel
theorem dX2_gather_73 : decode cX2_gather 73 = .ok (.dup, 1) := by decide +kernel
theorem dX2_gather_74 : decode cX2_gather 74 = .ok (.getfield 21, 3) := by decide +kernel
theorem dX2_gather_77 : decode cX2_gather 77 = .ok (.iconst 1, 1) := by decide +kernel
theorem dX2_gather_78 : decode cX2_gather 78 = .ok (.iadd, 1) := by decide +kernel
theorem dX2_gather_79 : decode cX2_gather 79 = .ok (.putfield 21, 3) := by decide +kernel
theorem dX2_gather_82 : decode cX2_gather 82 = .ok (.aload_n 0, 1) := by decide +kernel
theorem dX2_gather_83 : decode cX2_gather 83 = .ok (.aload_n 0, 1) := by decide +kernel
theorem dX2_gather_84 : decode cX2_gather 84 = .ok (.getfield 9, 3) := by decide +kernel
theorem dX2_gather_87 : decode cX2_gather 87 = .ok (.iload_n 2, 1) := by decide +kernel
theorem dX2_gather_88 : decode cX2_gather 88 = .ok (.iaload, 1) := by decide +kernel
theorem dX2_gather_89 : decode cX2_gather 89 = .ok (.aload_n 1, 1) := by decide +kernel
theorem dX2_gather_90 : decode cX2_gather 90 = .ok (.getfield 36, 3) := by decide +kernel
theorem dX2_gather_93 : decode cX2_gather 93 = .ok (.iload_n 2, 1) := by decide +kernel
theorem dX2_gather_94 : decode cX2_gather 94 = .ok (.iaload, 1) := by decide +kernel
theorem dX2_gather_95 : decode cX2_gather 95 = .ok (.invokevirtual 37, 3) := by decide +kernel
theorem dX2_gather_98 : decode cX2_gather 98 = .ok (.iinc 2 1, 3) := by decide +kernel
theorem dX2_gather_101 : decode cX2_gather 101 = .ok (.goto (-89), 3) := by decide +kernel
theorem dX2_gather_104 : decode cX2_gather 104 = .ok (.aload_n 0, 1) := by decide +kernel
theorem dX2_gather_105 : decode cX2_gather 105 = .ok (.iconst 0, 1) := by decide +kernel
theorem dX2_gather_106 : decode cX2_gather 106 = .ok (.putfield 41, 3) := by decide +kernel
theorem dX2_gather_109 : decode cX2_gather 109 = .ok (.iconst 0, 1) := by decide +kernel
theorem dX2_gather_110 : decode cX2_gather 110 = .ok (.istore_n 2, 1) := by decide +kernel
theorem dX2_gather_111 : decode cX2_gather 111 = .ok (.iload_n 2, 1) := by decide +kernel
theorem dX2_gather_112 : decode cX2_gather 112 = .ok (.aload_n 0, 1) := by decide +kernel
theorem dX2_gather_113 : decode cX2_gather 113 = .ok (.getfield 21, 3) := by decide +kernel
theorem dX2_gather_116 : decode cX2_gather 116 = .ok (.if_icmp .ge 33, 3) := by decide +kernel
theorem dX2_gather_119 : decode cX2_gather 119 = .ok (.aload_n 0, 1) := by decide +kernel
theorem dX2_gather_120 : decode cX2_gather 120 = .ok (.dup, 1) := by decide +kernel
theorem dX2_gather_121 : decode cX2_gather 121 = .ok (.getfield 41, 3) := by decide +kernel
theorem dX2_gather_124 : decode cX2_gather 124 = .ok (.aload_n 0, 1) := by decide +kernel
theorem dX2_gather_125 : decode cX2_gather 125 = .ok (.getfield 15, 3) := by decide +kernel
theorem dX2_gather_128 : decode cX2_gather 128 = .ok (.iload_n 2, 1) := by decide +kernel
theorem dX2_gather_129 : decode cX2_gather 129 = .ok (.iaload, 1) := by decide +kernel
theorem dX2_gather_130 : decode cX2_gather 130 = .ok (.iconst (-1), 1) := by decide +kernel
theorem dX2_gather_131 : decode cX2_gather 131 = .ok (.if_icmp .ne 7, 3) := by decide +kernel
theorem dX2_gather_134 : decode cX2_gather 134 = .ok (.iconst 1, 1) := by decide +kernel
theorem dX2_gather_135 : decode cX2_gather 135 = .ok (.goto 4, 3) := by decide +kernel
theorem dX2_gather_138 : decode cX2_gather 138 = .ok (.iconst 0, 1) := by decide +kernel
theorem dX2_gather_139 : decode cX2_gather 139 = .ok (.iadd, 1) := by decide +kernel
theorem dX2_gather_140 : decode cX2_gather 140 = .ok (.putfield 41, 3) := by decide +kernel
theorem dX2_gather_143 : decode cX2_gather 143 = .ok (.iinc 2 1, 3) := by decide +kernel
theorem dX2_gather_146 : decode cX2_gather 146 = .ok (.goto (-35), 3) := by decide +kernel
theorem dX2_gather_149 : decode cX2_gather 149 = .ok (.return_, 1) := by decide +kernel
theorem dX2_earlierGroup_0 : decode cX2_earlierGroup 0 = .ok (.iconst 0, 1) := by decide +kernel
theorem dX2_earlierGroup_1 : decode cX2_earlierGroup 1 = .ok (.istore_n 3, 1) := by decide +kernel
theorem dX2_earlierGroup_2 : decode cX2_earlierGroup 2 = .ok (.iload_n 3, 1) := by decide +kernel
theorem dX2_earlierGroup_3 : decode cX2_earlierGroup 3 = .ok (.iload_n 2, 1) := by decide +kernel
theorem dX2_earlierGroup_4 : decode cX2_earlierGroup 4 = .ok (.if_icmp .ge 31, 3) := by decide +kernel
theorem dX2_earlierGroup_7 : decode cX2_earlierGroup 7 = .ok (.aload_n 1, 1) := by decide +kernel
theorem dX2_earlierGroup_8 : decode cX2_earlierGroup 8 = .ok (.getfield 44, 3) := by decide +kernel
theorem dX2_earlierGroup_11 : decode cX2_earlierGroup 11 = .ok (.iload_n 3, 1) := by decide +kernel
theorem dX2_earlierGroup_12 : decode cX2_earlierGroup 12 = .ok (.iaload, 1) := by decide +kernel
theorem dX2_earlierGroup_13 : decode cX2_earlierGroup 13 = .ok (.aload_n 1, 1) := by decide +kernel
theorem dX2_earlierGroup_14 : decode cX2_earlierGroup 14 = .ok (.getfield 44, 3) := by decide +kernel
theorem dX2_earlierGroup_17 : decode cX2_earlierGroup 17 = .ok (.iload_n 2, 1) := by decide +kernel
theorem dX2_earlierGroup_18 : decode cX2_earlierGroup 18 = .ok (.iaload, 1) := by decide +kernel
theorem dX2_earlierGroup_19 : decode cX2_earlierGroup 19 = .ok (.if_icmp .ne 10, 3) := by decide +kernel
theorem dX2_earlierGroup_22 : decode cX2_earlierGroup 22 = .ok (.aload_n 0, 1) := by decide +kernel
theorem dX2_earlierGroup_23 : decode cX2_earlierGroup 23 = .ok (.getfield 9, 3) := by decide +kernel
theorem dX2_earlierGroup_26 : decode cX2_earlierGroup 26 = .ok (.iload_n 3, 1) := by decide +kernel
theorem dX2_earlierGroup_27 : decode cX2_earlierGroup 27 = .ok (.iaload, 1) := by decide +kernel
theorem dX2_earlierGroup_28 : decode cX2_earlierGroup 28 = .ok (.ireturn, 1) := by decide +kernel
theorem dX2_earlierGroup_29 : decode cX2_earlierGroup 29 = .ok (.iinc 3 1, 3) := by decide +kernel
theorem dX2_earlierGroup_32 : decode cX2_earlierGroup 32 = .ok (.goto (-30), 3) := by decide +kernel
theorem dX2_earlierGroup_35 : decode cX2_earlierGroup 35 = .ok (.iconst (-1), 1) := by decide +kernel
theorem dX2_earlierGroup_36 : decode cX2_earlierGroup 36 = .ok (.ireturn, 1) := by decide +kernel
theorem dX2_fix_0 : decode cX2_fix 0 = .ok (.iload_n 2, 1) := by decide +kernel
theorem dX2_fix_1 : decode cX2_fix 1 = .ok (.iconst (-1), 1) := by decide +kernel
theorem dX2_fix_2 : decode cX2_fix 2 = .ok (.if_icmp .eq 13, 3) := by decide +kernel
theorem dX2_fix_5 : decode cX2_fix 5 = .ok (.aload_n 0, 1) := by decide +kernel
theorem dX2_fix_6 : decode cX2_fix 6 = .ok (.getfield 15, 3) := by decide +kernel
theorem dX2_fix_9 : decode cX2_fix 9 = .ok (.iload_n 1, 1) := by decide +kernel
theorem dX2_fix_10 : decode cX2_fix 10 = .ok (.iaload, 1) := by decide +kernel
theorem dX2_fix_11 : decode cX2_fix 11 = .ok (.iload_n 2, 1) := by decide +kernel
theorem dX2_fix_12 : decode cX2_fix 12 = .ok (.if_icmp .ne 4, 3) := by decide +kernel
theorem dX2_fix_15 : decode cX2_fix 15 = .ok (.return_, 1) := by decide +kernel
theorem dX2_fix_16 : decode cX2_fix 16 = .ok (.aload_n 0, 1) := by decide +kernel
theorem dX2_fix_17 : decode cX2_fix 17 = .ok (.aload_n 0, 1) := by decide +kernel
theorem dX2_fix_18 : decode cX2_fix 18 = .ok (.getfield 25, 3) := by decide +kernel
theorem dX2_fix_21 : decode cX2_fix 21 = .ok (.ifCond .ne 13, 3) := by decide +kernel
theorem dX2_fix_24 : decode cX2_fix 24 = .ok (.aload_n 0, 1) := by decide +kernel
theorem dX2_fix_25 : decode cX2_fix 25 = .ok (.getfield 15, 3) := by decide +kernel
theorem dX2_fix_28 : decode cX2_fix 28 = .ok (.iload_n 1, 1) := by decide +kernel
theorem dX2_fix_29 : decode cX2_fix 29 = .ok (.iaload, 1) := by decide +kernel
theorem dX2_fix_30 : decode cX2_fix 30 = .ok (.iconst (-1), 1) := by decide +kernel
theorem dX2_fix_31 : decode cX2_fix 31 = .ok (.if_icmp .eq 7, 3) := by decide +kernel
theorem dX2_fix_34 : decode cX2_fix 34 = .ok (.iconst 1, 1) := by decide +kernel
theorem dX2_fix_35 : decode cX2_fix 35 = .ok (.goto 4, 3) := by decide +kernel
theorem dX2_fix_38 : decode cX2_fix 38 = .ok (.iconst 0, 1) := by decide +kernel
theorem dX2_fix_39 : decode cX2_fix 39 = .ok (.putfield 25, 3) := by decide +kernel
theorem dX2_fix_42 : decode cX2_fix 42 = .ok (.aload_n 0, 1) := by decide +kernel
theorem dX2_fix_43 : decode cX2_fix 43 = .ok (.getfield 15, 3) := by decide +kernel
theorem dX2_fix_46 : decode cX2_fix 46 = .ok (.iload_n 1, 1) := by decide +kernel
theorem dX2_fix_47 : decode cX2_fix 47 = .ok (.aload_n 0, 1) := by decide +kernel
theorem dX2_fix_48 : decode cX2_fix 48 = .ok (.getfield 15, 3) := by decide +kernel
theorem dX2_fix_51 : decode cX2_fix 51 = .ok (.iload_n 1, 1) := by decide +kernel
theorem dX2_fix_52 : decode cX2_fix 52 = .ok (.iaload, 1) := by decide +kernel
theorem dX2_fix_53 : decode cX2_fix 53 = .ok (.iconst (-1), 1) := by decide +kernel
theorem dX2_fix_54 : decode cX2_fix 54 = .ok (.if_icmp .ne 7, 3) := by decide +kernel
theorem dX2_fix_57 : decode cX2_fix 57 = .ok (.iload_n 2, 1) := by decide +kernel
theorem dX2_fix_58 : decode cX2_fix 58 = .ok (.goto 5, 3) := by decide +kernel
theorem dX2_fix_61 : decode cX2_fix 61 = .ok (.bipush (-2), 2) := by decide +kernel
theorem dX2_fix_63 : decode cX2_fix 63 = .ok (.iastore, 1) := by decide +kernel
theorem dX2_fix_64 : decode cX2_fix 64 = .ok (.return_, 1) := by decide +kernel
theorem dX2_isFree_0 : decode cX2_isFree 0 = .ok (.iload_n 1, 1) := by decide +kernel
theorem dX2_isFree_1 : decode cX2_isFree 1 = .ok (.ifCond .lt 25, 3) := by decide +kernel
theorem dX2_isFree_4 : decode cX2_isFree 4 = .ok (.iload_n 1, 1) := by decide +kernel
theorem dX2_isFree_5 : decode cX2_isFree 5 = .ok (.aload_n 0, 1) := by decide +kernel
theorem dX2_isFree_6 : decode cX2_isFree 6 = .ok (.getfield 21, 3) := by decide +kernel
theorem dX2_isFree_9 : decode cX2_isFree 9 = .ok (.if_icmp .ge 17, 3) := by decide +kernel
theorem dX2_isFree_12 : decode cX2_isFree 12 = .ok (.aload_n 0, 1) := by decide +kernel
theorem dX2_isFree_13 : decode cX2_isFree 13 = .ok (.getfield 15, 3) := by decide +kernel
theorem dX2_isFree_16 : decode cX2_isFree 16 = .ok (.iload_n 1, 1) := by decide +kernel
theorem dX2_isFree_17 : decode cX2_isFree 17 = .ok (.iaload, 1) := by decide +kernel
theorem dX2_isFree_18 : decode cX2_isFree 18 = .ok (.iconst (-1), 1) := by decide +kernel
theorem dX2_isFree_19 : decode cX2_isFree 19 = .ok (.if_icmp .ne 7, 3) := by decide +kernel
theorem dX2_isFree_22 : decode cX2_isFree 22 = .ok (.iconst 1, 1) := by decide +kernel
theorem dX2_isFree_23 : decode cX2_isFree 23 = .ok (.goto 4, 3) := by decide +kernel
theorem dX2_isFree_26 : decode cX2_isFree 26 = .ok (.iconst 0, 1) := by decide +kernel
theorem dX2_isFree_27 : decode cX2_isFree 27 = .ok (.ireturn, 1) := by decide +kernel
theorem dX2_leaderOf_0 : decode cX2_leaderOf 0 = .ok (.iload_n 1, 1) := by decide +kernel
theorem dX2_leaderOf_1 : decode cX2_leaderOf 1 = .ok (.ifCond .lt 20, 3) := by decide +kernel
theorem dX2_leaderOf_4 : decode cX2_leaderOf 4 = .ok (.iload_n 1, 1) := by decide +kernel
theorem dX2_leaderOf_5 : decode cX2_leaderOf 5 = .ok (.aload_n 0, 1) := by decide +kernel
theorem dX2_leaderOf_6 : decode cX2_leaderOf 6 = .ok (.getfield 21, 3) := by decide +kernel
theorem dX2_leaderOf_9 : decode cX2_leaderOf 9 = .ok (.if_icmp .ge 12, 3) := by decide +kernel
theorem dX2_leaderOf_12 : decode cX2_leaderOf 12 = .ok (.aload_n 0, 1) := by decide +kernel
theorem dX2_leaderOf_13 : decode cX2_leaderOf 13 = .ok (.getfield 18, 3) := by decide +kernel
theorem dX2_leaderOf_16 : decode cX2_leaderOf 16 = .ok (.iload_n 1, 1) := by decide +kernel
theorem dX2_leaderOf_17 : decode cX2_leaderOf 17 = .ok (.iaload, 1) := by decide +kernel
theorem dX2_leaderOf_18 : decode cX2_leaderOf 18 = .ok (.goto 4, 3) := by decide +kernel
theorem dX2_leaderOf_21 : decode cX2_leaderOf 21 = .ok (.iconst (-1), 1) := by decide +kernel
theorem dX2_leaderOf_22 : decode cX2_leaderOf 22 = .ok (.ireturn, 1) := by decide +kernel
theorem dX2_fillFree_0 : decode cX2_fillFree 0 = .ok (.iconst 0, 1) := by decide +kernel
theorem dX2_fillFree_1 : decode cX2_fillFree 1 = .ok (.istore_n 3, 1) := by decide +kernel
theorem dX2_fillFree_2 : decode cX2_fillFree 2 = .ok (.iload_n 3, 1) := by decide +kernel
theorem dX2_fillFree_3 : decode cX2_fillFree 3 = .ok (.aload_n 0, 1) := by decide +kernel
theorem dX2_fillFree_4 : decode cX2_fillFree 4 = .ok (.getfield 21, 3) := by decide +kernel
theorem dX2_fillFree_7 : decode cX2_fillFree 7 = .ok (.if_icmp .ge 38, 3) := by decide +kernel
theorem dX2_fillFree_10 : decode cX2_fillFree 10 = .ok (.iload_n 3, 1) := by decide +kernel
theorem dX2_fillFree_11 : decode cX2_fillFree 11 = .ok (.aload_n 1, 1) := by decide +kernel
theorem dX2_fillFree_12 : decode cX2_fillFree 12 = .ok (.arraylength, 1) := by decide +kernel
theorem dX2_fillFree_13 : decode cX2_fillFree 13 = .ok (.if_icmp .ge 32, 3) := by decide +kernel
theorem dX2_fillFree_16 : decode cX2_fillFree 16 = .ok (.aload_n 1, 1) := by decide +kernel
theorem dX2_fillFree_17 : decode cX2_fillFree 17 = .ok (.iload_n 3, 1) := by decide +kernel
theorem dX2_fillFree_18 : decode cX2_fillFree 18 = .ok (.aload_n 0, 1) := by decide +kernel
theorem dX2_fillFree_19 : decode cX2_fillFree 19 = .ok (.getfield 15, 3) := by decide +kernel
theorem dX2_fillFree_22 : decode cX2_fillFree 22 = .ok (.iload_n 3, 1) := by decide +kernel
theorem dX2_fillFree_23 : decode cX2_fillFree 23 = .ok (.iaload, 1) := by decide +kernel
theorem dX2_fillFree_24 : decode cX2_fillFree 24 = .ok (.iconst (-1), 1) := by decide +kernel
theorem dX2_fillFree_25 : decode cX2_fillFree 25 = .ok (.if_icmp .ne 7, 3) := by decide +kernel
theorem dX2_fillFree_28 : decode cX2_fillFree 28 = .ok (.iload_n 2, 1) := by decide +kernel
theorem dX2_fillFree_29 : decode cX2_fillFree 29 = .ok (.goto 9, 3) := by decide +kernel
theorem dX2_fillFree_32 : decode cX2_fillFree 32 = .ok (.aload_n 0, 1) := by decide +kernel
theorem dX2_fillFree_33 : decode cX2_fillFree 33 = .ok (.getfield 15, 3) := by decide +kernel
theorem dX2_fillFree_36 : decode cX2_fillFree 36 = .ok (.iload_n 3, 1) := by decide +kernel
theorem dX2_fillFree_37 : decode cX2_fillFree 37 = .ok (.iaload, 1) := by decide +kernel
theorem dX2_fillFree_38 : decode cX2_fillFree 38 = .ok (.iastore, 1) := by decide +kernel
theorem dX2_fillFree_39 : decode cX2_fillFree 39 = .ok (.iinc 3 1, 3) := by decide +kernel
theorem dX2_fillFree_42 : decode cX2_fillFree 42 = .ok (.goto (-40), 3) := by decide +kernel
theorem dX2_fillFree_45 : decode cX2_fillFree 45 = .ok (.return_, 1) := by decide +kernel
theorem dX3_init_0 : decode cX3_init 0 = .ok (.aload_n 0, 1) := by decide +kernel
theorem dX3_init_1 : decode cX3_init 1 = .ok (.invokespecial 3, 3) := by decide +kernel
theorem dX3_init_4 : decode cX3_init 4 = .ok (.aload_n 0, 1) := by decide +kernel
theorem dX3_init_5 : decode cX3_init 5 = .ok (.new 9, 3) := by decide +kernel
theorem dX3_init_8 : decode cX3_init 8 = .ok (.dup, 1) := by decide +kernel
theorem dX3_init_9 : decode cX3_init 9 = .ok (.invokespecial 11, 3) := by decide +kernel
theorem dX3_init_12 : decode cX3_init 12 = .ok (.putfield 12, 3) := by decide +kernel
theorem dX3_init_15 : decode cX3_init 15 = .ok (.aload_n 0, 1) := by decide +kernel
theorem dX3_init_16 : decode cX3_init 16 = .ok (.bipush 14, 2) := by decide +kernel
theorem dX3_init_18 : decode cX3_init 18 = .ok (.newarray .int, 2) := by decide +kernel
theorem dX3_init_20 : decode cX3_init 20 = .ok (.putfield 18, 3) := by decide +kernel
theorem dX3_init_23 : decode cX3_init 23 = .ok (.aload_n 0, 1) := by decide +kernel
theorem dX3_init_24 : decode cX3_init 24 = .ok (.bipush 14, 2) := by decide +kernel
theorem dX3_init_26 : decode cX3_init 26 = .ok (.newarray .boolean, 2) := by decide +kernel
theorem dX3_init_28 : decode cX3_init 28 = .ok (.putfield 22, 3) := by decide +kernel
theorem dX3_init_31 : decode cX3_init 31 = .ok (.aload_n 0, 1) := by decide +kernel
theorem dX3_init_32 : decode cX3_init 32 = .ok (.bipush 14, 2) := by decide +kernel
theorem dX3_init_34 : decode cX3_init 34 = .ok (.newarray .int, 2) := by decide +kernel
theorem dX3_init_36 : decode cX3_init 36 = .ok (.putfield 26, 3) := by decide +kernel
theorem dX3_init_39 : decode cX3_init 39 = .ok (.aload_n 0, 1) := by decide +kernel
theorem dX3_init_40 : decode cX3_init 40 = .ok (.bipush 28, 2) := by decide +kernel
theorem dX3_init_42 : decode cX3_init 42 = .ok (.newarray .int, 2) := by decide +kernel
theorem dX3_init_44 : decode cX3_init 44 = .ok (.putfield 29, 3) := by decide +kernel
theorem dX3_init_47 : decode cX3_init 47 = .ok (.aload_n 0, 1) := by decide +kernel
theorem dX3_init_48 : decode cX3_init 48 = .ok (.bipush 28, 2) := by decide +kernel
theorem dX3_init_50 : decode cX3_init 50 = .ok (.newarray .int, 2) := by decide +kernel
theorem dX3_init_52 : decode cX3_init 52 = .ok (.putfield 32, 3) := by decide +kernel
theorem dX3_init_55 : decode cX3_init 55 = .ok (.aload_n 0, 1) := by decide +kernel
theorem dX3_init_56 : decode cX3_init 56 = .ok (.bipush 14, 2) := by decide +kernel
theorem dX3_init_58 : decode cX3_init 58 = .ok (.newarray .int, 2) := by decide +kernel
theorem dX3_init_60 : decode cX3_init 60 = .ok (.putfield 35, 3) := by decide +kernel
theorem dX3_init_63 : decode cX3_init 63 = .ok (.aload_n 0, 1) := by decide +kernel
theorem dX3_init_64 : decode cX3_init 64 = .ok (.iconst (-1), 1) := by decide +kernel
theorem dX3_init_65 : decode cX3_init 65 = .ok (.putfield 38, 3) := by decide +kernel
theorem dX3_init_68 : decode cX3_init 68 = .ok (.aload_n 0, 1) := by decide +kernel
theorem dX3_init_69 : decode cX3_init 69 = .ok (.iconst (-1), 1) := by decide +kernel
theorem dX3_init_70 : decode cX3_init 70 = .ok (.putfield 42, 3) := by decide +kernel
theorem dX3_init_73 : decode cX3_init 73 = .ok (.return_, 1) := by decide +kernel
theorem dX3_forget_0 : decode cX3_forget 0 = .ok (.aload_n 0, 1) := by decide +kernel
theorem dX3_forget_1 : decode cX3_forget 1 = .ok (.iconst 0, 1) := by decide +kernel
theorem dX3_forget_2 : decode cX3_forget 2 = .ok (.putfield 45, 3) := by decide +kernel
theorem dX3_forget_5 : decode cX3_forget 5 = .ok (.return_, 1) := by decide +kernel
theorem dX3_goByHalves_0 : decode cX3_goByHalves 0 = .ok (.aload_n 1, 1) := by decide +kernel
theorem dX3_goByHalves_1 : decode cX3_goByHalves 1 = .ok (.invokevirtual 49, 3) := by decide +kernel
theorem dX3_goByHalves_4 : decode cX3_goByHalves 4 = .ok (.ifCond .ne 5, 3) := by decide +kernel
theorem dX3_goByHalves_7 : decode cX3_goByHalves 7 = .ok (.iconst 0, 1) := by decide +kernel
theorem dX3_goByHalves_8 : decode cX3_goByHalves 8 = .ok (.ireturn, 1) := by decide +kernel
theorem dX3_goByHalves_9 : decode cX3_goByHalves 9 = .ok (.aload_n 0, 1) := by decide +kernel
theorem dX3_goByHalves_10 : decode cX3_goByHalves 10 = .ok (.getfield 45, 3) := by decide +kernel
theorem dX3_goByHalves_13 : decode cX3_goByHalves 13 = .ok (.ifCond .eq 8, 3) := by decide +kernel
theorem dX3_goByHalves_16 : decode cX3_goByHalves 16 = .ok (.aload_n 0, 1) := by decide +kernel
theorem dX3_goByHalves_17 : decode cX3_goByHalves 17 = .ok (.getfield 55, 3) := by decide +kernel
theorem dX3_goByHalves_20 : decode cX3_goByHalves 20 = .ok (.ireturn, 1) := by decide +kernel
theorem dX3_goByHalves_21 : decode cX3_goByHalves 21 = .ok (.aload_n 0, 1) := by decide +kernel
theorem dX3_goByHalves_22 : decode cX3_goByHalves 22 = .ok (.iconst 1, 1) := by decide +kernel
theorem dX3_goByHalves_23 : decode cX3_goByHalves 23 = .ok (.putfield 45, 3) := by decide +kernel
theorem dX3_goByHalves_26 : decode cX3_goByHalves 26 = .ok (.aload_n 1, 1) := by decide +kernel
theorem dX3_goByHalves_27 : decode cX3_goByHalves 27 = .ok (.invokevirtual 58, 3) := by decide +kernel
theorem dX3_goByHalves_30 : decode cX3_goByHalves 30 = .ok (.istore_n 2, 1) := by decide +kernel
theorem dX3_goByHalves_31 : decode cX3_goByHalves 31 = .ok (.aload_n 1, 1) := by decide +kernel
theorem dX3_goByHalves_32 : decode cX3_goByHalves 32 = .ok (.getfield 62, 3) := by decide +kernel
theorem dX3_goByHalves_35 : decode cX3_goByHalves 35 = .ok (.aload_n 0, 1) := by decide +kernel
theorem dX3_goByHalves_36 : decode cX3_goByHalves 36 = .ok (.getfield 35, 3) := by decide +kernel
theorem dX3_goByHalves_39 : decode cX3_goByHalves 39 = .ok (.iload_n 2, 1) := by decide +kernel
theorem dX3_goByHalves_40 : decode cX3_goByHalves 40 = .ok (.invokevirtual 66, 3) := by decide +kernel
theorem dX3_goByHalves_43 : decode cX3_goByHalves 43 = .ok (.iconst 0, 1) := by decide +kernel
theorem dX3_goByHalves_44 : decode cX3_goByHalves 44 = .ok (.istore_n 3, 1) := by decide +kernel
theorem dX3_goByHalves_45 : decode cX3_goByHalves 45 = .ok (.iload_n 3, 1) := by decide +kernel
theorem dX3_goByHalves_46 : decode cX3_goByHalves 46 = .ok (.bipush 14, 2) := by decide +kernel
theorem dX3_goByHalves_48 : decode cX3_goByHalves 48 = .ok (.if_icmp .ge 16, 3) := by decide +kernel
theorem dX3_goByHalves_51 : decode cX3_goByHalves 51 = .ok (.aload_n 0, 1) := by decide +kernel
theorem dX3_goByHalves_52 : decode cX3_goByHalves 52 = .ok (.getfield 22, 3) := by decide +kernel
theorem dX3_goByHalves_55 : decode cX3_goByHalves 55 = .ok (.iload_n 3, 1) := by decide +kernel
theorem dX3_goByHalves_56 : decode cX3_goByHalves 56 = .ok (.iconst 0, 1) := by decide +kernel
theorem dX3_goByHalves_57 : decode cX3_goByHalves 57 = .ok (.bastore, 1) := by decide +kernel
theorem dX3_goByHalves_58 : decode cX3_goByHalves 58 = .ok (.iinc 3 1, 3) := by decide +kernel
theorem dX3_goByHalves_61 : decode cX3_goByHalves 61 = .ok (.goto (-16), 3) := by decide +kernel
theorem dX3_goByHalves_64 : decode cX3_goByHalves 64 = .ok (.aload_n 0, 1) := by decide +kernel
theorem dX3_goByHalves_65 : decode cX3_goByHalves 65 = .ok (.iconst 1, 1) := by decide +kernel
theorem dX3_goByHalves_66 : decode cX3_goByHalves 66 = .ok (.putfield 72, 3) := by decide +kernel
theorem dX3_goByHalves_69 : decode cX3_goByHalves 69 = .ok (.aload_n 0, 1) := by decide +kernel
theorem dX3_goByHalves_70 : decode cX3_goByHalves 70 = .ok (.aload_n 0, 1) := by decide +kernel
theorem dX3_goByHalves_71 : decode cX3_goByHalves 71 = .ok (.getfield 12, 3) := by decide +kernel
theorem dX3_goByHalves_74 : decode cX3_goByHalves 74 = .ok (.aload_n 1, 1) := by decide +kernel
theorem dX3_goByHalves_75 : decode cX3_goByHalves 75 = .ok (.aload_n 1, 1) := by decide +kernel
theorem dX3_goByHalves_76 : decode cX3_goByHalves 76 = .ok (.getfield 75, 3) := by decide +kernel
theorem dX3_goByHalves_79 : decode cX3_goByHalves 79 = .ok (.aload_n 0, 1) := by decide +kernel
theorem dX3_goByHalves_80 : decode cX3_goByHalves 80 = .ok (.getfield 35, 3) := by decide +kernel
theorem dX3_goByHalves_83 : decode cX3_goByHalves 83 = .ok (.invokevirtual 79, 3) := by decide +kernel
theorem dX3_goByHalves_86 : decode cX3_goByHalves 86 = .ok (.putfield 55, 3) := by decide +kernel
theorem dX3_goByHalves_89 : decode cX3_goByHalves 89 = .ok (.aload_n 0, 1) := by decide +kernel
theorem dX3_goByHalves_90 : decode cX3_goByHalves 90 = .ok (.aload_n 1, 1) := by decide +kernel
theorem dX3_goByHalves_91 : decode cX3_goByHalves 91 = .ok (.aload_n 0, 1) := by decide +kernel
theorem dX3_goByHalves_92 : decode cX3_goByHalves 92 = .ok (.getfield 35, 3) := by decide +kernel
theorem dX3_goByHalves_95 : decode cX3_goByHalves 95 = .ok (.invokevirtual 83, 3) := by decide +kernel
theorem dX3_goByHalves_98 : decode cX3_goByHalves 98 = .ok (.putfield 87, 3) := by decide +kernel
theorem dX3_goByHalves_101 : decode cX3_goByHalves 101 = .ok (.iconst 0, 1) := by decide +kernel
theorem dX3_goByHalves_102 : decode cX3_goByHalves 102 = .ok (.istore_n 3, 1) := by decide +kernel
theorem dX3_goByHalves_103 : decode cX3_goByHalves 103 = .ok (.aload_n 0, 1) := by decide +kernel
theorem dX3_goByHalves_104 : decode cX3_goByHalves 104 = .ok (.getfield 55, 3) := by decide +kernel
theorem dX3_goByHalves_107 : decode cX3_goByHalves 107 = .ok (.ifCond .eq 29, 3) := by decide +kernel
theorem dX3_goByHalves_110 : decode cX3_goByHalves 110 = .ok (.iload_n 3, 1) := by decide +kernel
theorem dX3_goByHalves_111 : decode cX3_goByHalves 111 = .ok (.aload_n 1, 1) := by decide +kernel
theorem dX3_goByHalves_112 : decode cX3_goByHalves 112 = .ok (.getfield 90, 3) := by decide +kernel
theorem dX3_goByHalves_115 : decode cX3_goByHalves 115 = .ok (.if_icmp .ge 21, 3) := by decide +kernel
theorem dX3_goByHalves_118 : decode cX3_goByHalves 118 = .ok (.iload_n 3, 1) := by decide +kernel
theorem dX3_goByHalves_119 : decode cX3_goByHalves 119 = .ok (.iload_n 2, 1) := by decide +kernel
theorem dX3_goByHalves_120 : decode cX3_goByHalves 120 = .ok (.if_icmp .eq 10, 3) := by decide +kernel
theorem dX3_goByHalves_123 : decode cX3_goByHalves 123 = .ok (.aload_n 0, 1) := by decide +kernel
theorem dX3_goByHalves_124 : decode cX3_goByHalves 124 = .ok (.aload_n 1, 1) := by decide +kernel
theorem dX3_goByHalves_125 : decode cX3_goByHalves 125 = .ok (.iload_n 3, 1) := by decide +kernel
theorem dX3_goByHalves_126 : decode cX3_goByHalves 126 = .ok (.iload_n 2, 1) := by decide +kernel
theorem dX3_goByHalves_127 : decode cX3_goByHalves 127 = .ok (.invokevirtual 93, 3) := by decide +kernel
theorem dX3_goByHalves_130 : decode cX3_goByHalves 130 = .ok (.iinc 3 1, 3) := by decide +kernel
theorem dX3_goByHalves_133 : decode cX3_goByHalves 133 = .ok (.goto (-30), 3) := by decide +kernel
theorem dX3_goByHalves_136 : decode cX3_goByHalves 136 = .ok (.aload_n 0, 1) := by decide +kernel
theorem dX3_goByHalves_137 : decode cX3_goByHalves 137 = .ok (.getfield 55, 3) := by decide +kernel
theorem dX3_goByHalves_140 : decode cX3_goByHalves 140 = .ok (.ireturn, 1) := by decide +kernel
theorem dX3_halveWith_0 : decode cX3_halveWith 0 = .ok (.aload_n 0, 1) := by decide +kernel
theorem dX3_halveWith_1 : decode cX3_halveWith 1 = .ok (.aload_n 1, 1) := by decide +kernel
theorem dX3_halveWith_2 : decode cX3_halveWith 2 = .ok (.invokevirtual 97, 3) := by decide +kernel
theorem dX3_halveWith_5 : decode cX3_halveWith 5 = .ok (.istore 4, 2) := by decide +kernel
theorem dX3_halveWith_7 : decode cX3_halveWith 7 = .ok (.aload_n 0, 1) := by decide +kernel
theorem dX3_halveWith_8 : decode cX3_halveWith 8 = .ok (.iconst 0, 1) := by decide +kernel
theorem dX3_halveWith_9 : decode cX3_halveWith 9 = .ok (.putfield 101, 3) := by decide +kernel
theorem dX3_halveWith_12 : decode cX3_halveWith 12 = .ok (.iload 4, 2) := by decide +kernel
theorem dX3_halveWith_14 : decode cX3_halveWith 14 = .ok (.ifCond .le 10, 3) := by decide +kernel
theorem dX3_halveWith_17 : decode cX3_halveWith 17 = .ok (.aload_n 0, 1) := by decide +kernel
theorem dX3_halveWith_18 : decode cX3_halveWith 18 = .ok (.iconst 0, 1) := by decide +kernel
theorem dX3_halveWith_19 : decode cX3_halveWith 19 = .ok (.iload 4, 2) := by decide +kernel
theorem dX3_halveWith_21 : decode cX3_halveWith 21 = .ok (.invokevirtual 104, 3) := by decide +kernel
theorem dX3_halveWith_24 : decode cX3_halveWith 24 = .ok (.iconst 0, 1) := by decide +kernel
theorem dX3_halveWith_25 : decode cX3_halveWith 25 = .ok (.istore 5, 2) := by decide +kernel
theorem dX3_halveWith_27 : decode cX3_halveWith 27 = .ok (.iload 5, 2) := by decide +kernel
theorem dX3_halveWith_29 : decode cX3_halveWith 29 = .ok (.aload_n 0, 1) := by decide +kernel
theorem dX3_halveWith_30 : decode cX3_halveWith 30 = .ok (.getfield 101, 3) := by decide +kernel
theorem dX3_halveWith_33 : decode cX3_halveWith 33 = .ok (.if_icmp .ge 95, 3) := by decide +kernel
theorem dX3_halveWith_36 : decode cX3_halveWith 36 = .ok (.iload 5, 2) := by decide +kernel
theorem dX3_halveWith_38 : decode cX3_halveWith 38 = .ok (.bipush 28, 2) := by decide +kernel
theorem dX3_halveWith_40 : decode cX3_halveWith 40 = .ok (.if_icmp .ge 88, 3) := by decide +kernel
theorem dX3_halveWith_43 : decode cX3_halveWith 43 = .ok (.aload_n 0, 1) := by decide +kernel
theorem dX3_halveWith_44 : decode cX3_halveWith 44 = .ok (.getfield 29, 3) := by decide +kernel
theorem dX3_halveWith_47 : decode cX3_halveWith 47 = .ok (.iload 5, 2) := by decide +kernel
theorem dX3_halveWith_49 : decode cX3_halveWith 49 = .ok (.iaload, 1) := by decide +kernel
theorem dX3_halveWith_50 : decode cX3_halveWith 50 = .ok (.istore 6, 2) := by decide +kernel
theorem dX3_halveWith_52 : decode cX3_halveWith 52 = .ok (.aload_n 0, 1) := by decide +kernel
theorem dX3_halveWith_53 : decode cX3_halveWith 53 = .ok (.getfield 32, 3) := by decide +kernel
theorem dX3_halveWith_56 : decode cX3_halveWith 56 = .ok (.iload 5, 2) := by decide +kernel
theorem dX3_halveWith_58 : decode cX3_halveWith 58 = .ok (.iaload, 1) := by decide +kernel
theorem dX3_halveWith_59 : decode cX3_halveWith 59 = .ok (.istore 7, 2) := by decide +kernel
theorem dX3_halveWith_61 : decode cX3_halveWith 61 = .ok (.aload_n 0, 1) := by decide +kernel
theorem dX3_halveWith_62 : decode cX3_halveWith 62 = .ok (.dup, 1) := by decide +kernel
theorem dX3_halveWith_63 : decode cX3_halveWith 63 = .ok (.getfield 72, 3) := by decide +kernel
theorem dX3_halveWith_66 : decode cX3_halveWith 66 = .ok (.iconst 1, 1) := by decide +kernel
theorem dX3_halveWith_67 : decode cX3_halveWith 67 = .ok (.iadd, 1) := by decide +kernel
theorem dX3_halveWith_68 : decode cX3_halveWith 68 = .ok (.putfield 72, 3) := by decide +kernel
theorem dX3_halveWith_71 : decode cX3_halveWith 71 = .ok (.aload_n 0, 1) := by decide +kernel
theorem dX3_halveWith_72 : decode cX3_halveWith 72 = .ok (.aload_n 1, 1) := by decide +kernel
theorem dX3_halveWith_73 : decode cX3_halveWith 73 = .ok (.iload 6, 2) := by decide +kernel
theorem dX3_halveWith_75 : decode cX3_halveWith 75 = .ok (.iload 7, 2) := by decide +kernel
theorem dX3_halveWith_77 : decode cX3_halveWith 77 = .ok (.iload_n 2, 1) := by decide +kernel
theorem dX3_halveWith_78 : decode cX3_halveWith 78 = .ok (.iload_n 3, 1) := by decide +kernel
theorem dX3_halveWith_79 : decode cX3_halveWith 79 = .ok (.invokevirtual 108, 3) := by decide +kernel
theorem dX3_halveWith_82 : decode cX3_halveWith 82 = .ok (.ifCond .ne 40, 3) := by decide +kernel
theorem dX3_halveWith_85 : decode cX3_halveWith 85 = .ok (.iload 7, 2) := by decide +kernel
theorem dX3_halveWith_87 : decode cX3_halveWith 87 = .ok (.iload 6, 2) := by decide +kernel
theorem dX3_halveWith_89 : decode cX3_halveWith 89 = .ok (.isub, 1) := by decide +kernel
theorem dX3_halveWith_90 : decode cX3_halveWith 90 = .ok (.iconst 2, 1) := by decide +kernel
theorem dX3_halveWith_91 : decode cX3_halveWith 91 = .ok (.if_icmp .lt 31, 3) := by decide +kernel
theorem dX3_halveWith_94 : decode cX3_halveWith 94 = .ok (.iload 6, 2) := by decide +kernel
theorem dX3_halveWith_96 : decode cX3_halveWith 96 = .ok (.iload 7, 2) := by decide +kernel
theorem dX3_halveWith_98 : decode cX3_halveWith 98 = .ok (.iload 6, 2) := by decide +kernel
theorem dX3_halveWith_100 : decode cX3_halveWith 100 = .ok (.isub, 1) := by decide +kernel
theorem dX3_halveWith_101 : decode cX3_halveWith 101 = .ok (.iconst 2, 1) := by decide +kernel
theorem dX3_halveWith_102 : decode cX3_halveWith 102 = .ok (.idiv, 1) := by decide +kernel
theorem dX3_halveWith_103 : decode cX3_halveWith 103 = .ok (.iadd, 1) := by decide +kernel
theorem dX3_halveWith_104 : decode cX3_halveWith 104 = .ok (.istore 8, 2) := by decide +kernel
theorem dX3_halveWith_106 : decode cX3_halveWith 106 = .ok (.aload_n 0, 1) := by decide +kernel
theorem dX3_halveWith_107 : decode cX3_halveWith 107 = .ok (.iload 6, 2) := by decide +kernel
theorem dX3_halveWith_109 : decode cX3_halveWith 109 = .ok (.iload 8, 2) := by decide +kernel
theorem dX3_halveWith_111 : decode cX3_halveWith 111 = .ok (.invokevirtual 104, 3) := by decide +kernel
theorem dX3_halveWith_114 : decode cX3_halveWith 114 = .ok (.aload_n 0, 1) := by decide +kernel
theorem dX3_halveWith_115 : decode cX3_halveWith 115 = .ok (.iload 8, 2) := by decide +kernel
theorem dX3_halveWith_117 : decode cX3_halveWith 117 = .ok (.iload 7, 2) := by decide +kernel
theorem dX3_halveWith_119 : decode cX3_halveWith 119 = .ok (.invokevirtual 104, 3) := by decide +kernel
theorem dX3_halveWith_122 : decode cX3_halveWith 122 = .ok (.iinc 5 1, 3) := by decide +kernel
theorem dX3_halveWith_125 : decode cX3_halveWith 125 = .ok (.goto (-98), 3) := by decide +kernel
theorem dX3_halveWith_128 : decode cX3_halveWith 128 = .ok (.return_, 1) := by decide +kernel
theorem dX3_findUnchanged_0 : decode cX3_findUnchanged 0 = .ok (.iconst 0, 1) := by decide +kernel
theorem dX3_findUnchanged_1 : decode cX3_findUnchanged 1 = .ok (.istore_n 2, 1) := by decide +kernel
theorem dX3_findUnchanged_2 : decode cX3_findUnchanged 2 = .ok (.iconst 0, 1) := by decide +kernel
theorem dX3_findUnchanged_3 : decode cX3_findUnchanged 3 = .ok (.istore_n 3, 1) := by decide +kernel
theorem dX3_findUnchanged_4 : decode cX3_findUnchanged 4 = .ok (.iload_n 3, 1) := by decide +kernel
theorem dX3_findUnchanged_5 : decode cX3_findUnchanged 5 = .ok (.aload_n 1, 1) := by decide +kernel
theorem dX3_findUnchanged_6 : decode cX3_findUnchanged 6 = .ok (.getfield 62, 3) := by decide +kernel
theorem dX3_findUnchanged_9 : decode cX3_findUnchanged 9 = .ok (.getfield 112, 3) := by decide +kernel
theorem dX3_findUnchanged_12 : decode cX3_findUnchanged 12 = .ok (.if_icmp .ge 41, 3) := by decide +kernel
theorem dX3_findUnchanged_15 : decode cX3_findUnchanged 15 = .ok (.aload_n 1, 1) := by decide +kernel
theorem dX3_findUnchanged_16 : decode cX3_findUnchanged 16 = .ok (.getfield 62, 3) := by decide +kernel
theorem dX3_findUnchanged_19 : decode cX3_findUnchanged 19 = .ok (.getfield 115, 3) := by decide +kernel
theorem dX3_findUnchanged_22 : decode cX3_findUnchanged 22 = .ok (.iload_n 3, 1) := by decide +kernel
theorem dX3_findUnchanged_23 : decode cX3_findUnchanged 23 = .ok (.iaload, 1) := by decide +kernel
theorem dX3_findUnchanged_24 : decode cX3_findUnchanged 24 = .ok (.iconst (-1), 1) := by decide +kernel
theorem dX3_findUnchanged_25 : decode cX3_findUnchanged 25 = .ok (.if_icmp .ne 22, 3) := by decide +kernel
theorem dX3_findUnchanged_28 : decode cX3_findUnchanged 28 = .ok (.aload_n 0, 1) := by decide +kernel
theorem dX3_findUnchanged_29 : decode cX3_findUnchanged 29 = .ok (.getfield 22, 3) := by decide +kernel
