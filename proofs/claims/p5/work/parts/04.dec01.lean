theorem dX3_findUnchanged_32 : decode cX3_findUnchanged 32 = .ok (.iload_n 3, 1) := by decide +kernel
theorem dX3_findUnchanged_33 : decode cX3_findUnchanged 33 = .ok (.baload, 1) := by decide +kernel
theorem dX3_findUnchanged_34 : decode cX3_findUnchanged 34 = .ok (.ifCond .ne 13, 3) := by decide +kernel
theorem dX3_findUnchanged_37 : decode cX3_findUnchanged 37 = .ok (.aload_n 0, 1) := by decide +kernel
theorem dX3_findUnchanged_38 : decode cX3_findUnchanged 38 = .ok (.getfield 26, 3) := by decide +kernel
theorem dX3_findUnchanged_41 : decode cX3_findUnchanged 41 = .ok (.iload_n 2, 1) := by decide +kernel
theorem dX3_findUnchanged_42 : decode cX3_findUnchanged 42 = .ok (.iload_n 3, 1) := by decide +kernel
theorem dX3_findUnchanged_43 : decode cX3_findUnchanged 43 = .ok (.iastore, 1) := by decide +kernel
theorem dX3_findUnchanged_44 : decode cX3_findUnchanged 44 = .ok (.iinc 2 1, 3) := by decide +kernel
theorem dX3_findUnchanged_47 : decode cX3_findUnchanged 47 = .ok (.iinc 3 1, 3) := by decide +kernel
theorem dX3_findUnchanged_50 : decode cX3_findUnchanged 50 = .ok (.goto (-46), 3) := by decide +kernel
theorem dX3_findUnchanged_53 : decode cX3_findUnchanged 53 = .ok (.iload_n 2, 1) := by decide +kernel
theorem dX3_findUnchanged_54 : decode cX3_findUnchanged 54 = .ok (.ireturn, 1) := by decide +kernel
theorem dX3_addPart_0 : decode cX3_addPart 0 = .ok (.aload_n 0, 1) := by decide +kernel
theorem dX3_addPart_1 : decode cX3_addPart 1 = .ok (.getfield 101, 3) := by decide +kernel
theorem dX3_addPart_4 : decode cX3_addPart 4 = .ok (.bipush 28, 2) := by decide +kernel
theorem dX3_addPart_6 : decode cX3_addPart 6 = .ok (.if_icmp .ge 33, 3) := by decide +kernel
theorem dX3_addPart_9 : decode cX3_addPart 9 = .ok (.aload_n 0, 1) := by decide +kernel
theorem dX3_addPart_10 : decode cX3_addPart 10 = .ok (.getfield 29, 3) := by decide +kernel
theorem dX3_addPart_13 : decode cX3_addPart 13 = .ok (.aload_n 0, 1) := by decide +kernel
theorem dX3_addPart_14 : decode cX3_addPart 14 = .ok (.getfield 101, 3) := by decide +kernel
theorem dX3_addPart_17 : decode cX3_addPart 17 = .ok (.iload_n 1, 1) := by decide +kernel
theorem dX3_addPart_18 : decode cX3_addPart 18 = .ok (.iastore, 1) := by decide +kernel
theorem dX3_addPart_19 : decode cX3_addPart 19 = .ok (.aload_n 0, 1) := by decide +kernel
theorem dX3_addPart_20 : decode cX3_addPart 20 = .ok (.getfield 32, 3) := by decide +kernel
theorem dX3_addPart_23 : decode cX3_addPart 23 = .ok (.aload_n 0, 1) := by decide +kernel
theorem dX3_addPart_24 : decode cX3_addPart 24 = .ok (.getfield 101, 3) := by decide +kernel
theorem dX3_addPart_27 : decode cX3_addPart 27 = .ok (.iload_n 2, 1) := by decide +kernel
theorem dX3_addPart_28 : decode cX3_addPart 28 = .ok (.iastore, 1) := by decide +kernel
theorem dX3_addPart_29 : decode cX3_addPart 29 = .ok (.aload_n 0, 1) := by decide +kernel
theorem dX3_addPart_30 : decode cX3_addPart 30 = .ok (.dup, 1) := by decide +kernel
theorem dX3_addPart_31 : decode cX3_addPart 31 = .ok (.getfield 101, 3) := by decide +kernel
theorem dX3_addPart_34 : decode cX3_addPart 34 = .ok (.iconst 1, 1) := by decide +kernel
theorem dX3_addPart_35 : decode cX3_addPart 35 = .ok (.iadd, 1) := by decide +kernel
theorem dX3_addPart_36 : decode cX3_addPart 36 = .ok (.putfield 101, 3) := by decide +kernel
theorem dX3_addPart_39 : decode cX3_addPart 39 = .ok (.return_, 1) := by decide +kernel
theorem dX3_changePart_0 : decode cX3_changePart 0 = .ok (.aload_n 0, 1) := by decide +kernel
theorem dX3_changePart_1 : decode cX3_changePart 1 = .ok (.iload_n 2, 1) := by decide +kernel
theorem dX3_changePart_2 : decode cX3_changePart 2 = .ok (.iload_n 3, 1) := by decide +kernel
theorem dX3_changePart_3 : decode cX3_changePart 3 = .ok (.iload 4, 2) := by decide +kernel
theorem dX3_changePart_5 : decode cX3_changePart 5 = .ok (.invokevirtual 118, 3) := by decide +kernel
theorem dX3_changePart_8 : decode cX3_changePart 8 = .ok (.aload_n 1, 1) := by decide +kernel
theorem dX3_changePart_9 : decode cX3_changePart 9 = .ok (.aload_n 0, 1) := by decide +kernel
theorem dX3_changePart_10 : decode cX3_changePart 10 = .ok (.getfield 35, 3) := by decide +kernel
theorem dX3_changePart_13 : decode cX3_changePart 13 = .ok (.invokevirtual 83, 3) := by decide +kernel
theorem dX3_changePart_16 : decode cX3_changePart 16 = .ok (.istore 6, 2) := by decide +kernel
theorem dX3_changePart_18 : decode cX3_changePart 18 = .ok (.iload 6, 2) := by decide +kernel
theorem dX3_changePart_20 : decode cX3_changePart 20 = .ok (.aload_n 0, 1) := by decide +kernel
theorem dX3_changePart_21 : decode cX3_changePart 21 = .ok (.getfield 87, 3) := by decide +kernel
theorem dX3_changePart_24 : decode cX3_changePart 24 = .ok (.if_icmp .ge 22, 3) := by decide +kernel
theorem dX3_changePart_27 : decode cX3_changePart 27 = .ok (.aload_n 0, 1) := by decide +kernel
theorem dX3_changePart_28 : decode cX3_changePart 28 = .ok (.getfield 12, 3) := by decide +kernel
theorem dX3_changePart_31 : decode cX3_changePart 31 = .ok (.aload_n 1, 1) := by decide +kernel
theorem dX3_changePart_32 : decode cX3_changePart 32 = .ok (.aload_n 1, 1) := by decide +kernel
theorem dX3_changePart_33 : decode cX3_changePart 33 = .ok (.getfield 75, 3) := by decide +kernel
theorem dX3_changePart_36 : decode cX3_changePart 36 = .ok (.aload_n 0, 1) := by decide +kernel
theorem dX3_changePart_37 : decode cX3_changePart 37 = .ok (.getfield 35, 3) := by decide +kernel
theorem dX3_changePart_40 : decode cX3_changePart 40 = .ok (.invokevirtual 79, 3) := by decide +kernel
theorem dX3_changePart_43 : decode cX3_changePart 43 = .ok (.ifCond .ne 13, 3) := by decide +kernel
theorem dX3_changePart_46 : decode cX3_changePart 46 = .ok (.aload_n 0, 1) := by decide +kernel
theorem dX3_changePart_47 : decode cX3_changePart 47 = .ok (.iload_n 2, 1) := by decide +kernel
theorem dX3_changePart_48 : decode cX3_changePart 48 = .ok (.iload_n 3, 1) := by decide +kernel
theorem dX3_changePart_49 : decode cX3_changePart 49 = .ok (.iload 5, 2) := by decide +kernel
theorem dX3_changePart_51 : decode cX3_changePart 51 = .ok (.invokevirtual 118, 3) := by decide +kernel
theorem dX3_changePart_54 : decode cX3_changePart 54 = .ok (.iconst 0, 1) := by decide +kernel
theorem dX3_changePart_55 : decode cX3_changePart 55 = .ok (.ireturn, 1) := by decide +kernel
theorem dX3_changePart_56 : decode cX3_changePart 56 = .ok (.aload_n 0, 1) := by decide +kernel
theorem dX3_changePart_57 : decode cX3_changePart 57 = .ok (.iload 6, 2) := by decide +kernel
theorem dX3_changePart_59 : decode cX3_changePart 59 = .ok (.putfield 87, 3) := by decide +kernel
theorem dX3_changePart_62 : decode cX3_changePart 62 = .ok (.iload_n 2, 1) := by decide +kernel
theorem dX3_changePart_63 : decode cX3_changePart 63 = .ok (.istore 7, 2) := by decide +kernel
theorem dX3_changePart_65 : decode cX3_changePart 65 = .ok (.iload 7, 2) := by decide +kernel
theorem dX3_changePart_67 : decode cX3_changePart 67 = .ok (.iload_n 3, 1) := by decide +kernel
theorem dX3_changePart_68 : decode cX3_changePart 68 = .ok (.if_icmp .ge 22, 3) := by decide +kernel
theorem dX3_changePart_71 : decode cX3_changePart 71 = .ok (.aload_n 0, 1) := by decide +kernel
theorem dX3_changePart_72 : decode cX3_changePart 72 = .ok (.getfield 22, 3) := by decide +kernel
theorem dX3_changePart_75 : decode cX3_changePart 75 = .ok (.aload_n 0, 1) := by decide +kernel
theorem dX3_changePart_76 : decode cX3_changePart 76 = .ok (.getfield 26, 3) := by decide +kernel
theorem dX3_changePart_79 : decode cX3_changePart 79 = .ok (.iload 7, 2) := by decide +kernel
theorem dX3_changePart_81 : decode cX3_changePart 81 = .ok (.iaload, 1) := by decide +kernel
theorem dX3_changePart_82 : decode cX3_changePart 82 = .ok (.iconst 1, 1) := by decide +kernel
theorem dX3_changePart_83 : decode cX3_changePart 83 = .ok (.bastore, 1) := by decide +kernel
theorem dX3_changePart_84 : decode cX3_changePart 84 = .ok (.iinc 7 1, 3) := by decide +kernel
theorem dX3_changePart_87 : decode cX3_changePart 87 = .ok (.goto (-22), 3) := by decide +kernel
theorem dX3_changePart_90 : decode cX3_changePart 90 = .ok (.iconst 1, 1) := by decide +kernel
theorem dX3_changePart_91 : decode cX3_changePart 91 = .ok (.ireturn, 1) := by decide +kernel
theorem dX3_setPart_0 : decode cX3_setPart 0 = .ok (.iload_n 1, 1) := by decide +kernel
theorem dX3_setPart_1 : decode cX3_setPart 1 = .ok (.istore 4, 2) := by decide +kernel
theorem dX3_setPart_3 : decode cX3_setPart 3 = .ok (.iload 4, 2) := by decide +kernel
theorem dX3_setPart_5 : decode cX3_setPart 5 = .ok (.iload_n 2, 1) := by decide +kernel
theorem dX3_setPart_6 : decode cX3_setPart 6 = .ok (.if_icmp .ge 22, 3) := by decide +kernel
theorem dX3_setPart_9 : decode cX3_setPart 9 = .ok (.aload_n 0, 1) := by decide +kernel
theorem dX3_setPart_10 : decode cX3_setPart 10 = .ok (.getfield 35, 3) := by decide +kernel
theorem dX3_setPart_13 : decode cX3_setPart 13 = .ok (.aload_n 0, 1) := by decide +kernel
theorem dX3_setPart_14 : decode cX3_setPart 14 = .ok (.getfield 26, 3) := by decide +kernel
theorem dX3_setPart_17 : decode cX3_setPart 17 = .ok (.iload 4, 2) := by decide +kernel
theorem dX3_setPart_19 : decode cX3_setPart 19 = .ok (.iaload, 1) := by decide +kernel
theorem dX3_setPart_20 : decode cX3_setPart 20 = .ok (.iload_n 3, 1) := by decide +kernel
theorem dX3_setPart_21 : decode cX3_setPart 21 = .ok (.iastore, 1) := by decide +kernel
theorem dX3_setPart_22 : decode cX3_setPart 22 = .ok (.iinc 4 1, 3) := by decide +kernel
theorem dX3_setPart_25 : decode cX3_setPart 25 = .ok (.goto (-22), 3) := by decide +kernel
theorem dX3_setPart_28 : decode cX3_setPart 28 = .ok (.return_, 1) := by decide +kernel
theorem dX3_lookAround_0 : decode cX3_lookAround 0 = .ok (.aload_n 0, 1) := by decide +kernel
theorem dX3_lookAround_1 : decode cX3_lookAround 1 = .ok (.iconst 0, 1) := by decide +kernel
theorem dX3_lookAround_2 : decode cX3_lookAround 2 = .ok (.putfield 122, 3) := by decide +kernel
theorem dX3_lookAround_5 : decode cX3_lookAround 5 = .ok (.aload_n 0, 1) := by decide +kernel
theorem dX3_lookAround_6 : decode cX3_lookAround 6 = .ok (.iconst 0, 1) := by decide +kernel
theorem dX3_lookAround_7 : decode cX3_lookAround 7 = .ok (.putfield 125, 3) := by decide +kernel
theorem dX3_lookAround_10 : decode cX3_lookAround 10 = .ok (.aload_n 0, 1) := by decide +kernel
theorem dX3_lookAround_11 : decode cX3_lookAround 11 = .ok (.iconst (-1), 1) := by decide +kernel
theorem dX3_lookAround_12 : decode cX3_lookAround 12 = .ok (.putfield 38, 3) := by decide +kernel
theorem dX3_lookAround_15 : decode cX3_lookAround 15 = .ok (.aload_n 0, 1) := by decide +kernel
theorem dX3_lookAround_16 : decode cX3_lookAround 16 = .ok (.iconst (-1), 1) := by decide +kernel
theorem dX3_lookAround_17 : decode cX3_lookAround 17 = .ok (.putfield 42, 3) := by decide +kernel
theorem dX3_lookAround_20 : decode cX3_lookAround 20 = .ok (.aload_n 2, 1) := by decide +kernel
theorem dX3_lookAround_21 : decode cX3_lookAround 21 = .ok (.aload_n 0, 1) := by decide +kernel
theorem dX3_lookAround_22 : decode cX3_lookAround 22 = .ok (.getfield 18, 3) := by decide +kernel
theorem dX3_lookAround_25 : decode cX3_lookAround 25 = .ok (.invokestatic 128, 3) := by decide +kernel
theorem dX3_lookAround_28 : decode cX3_lookAround 28 = .ok (.aload_n 1, 1) := by decide +kernel
theorem dX3_lookAround_29 : decode cX3_lookAround 29 = .ok (.aload_n 2, 1) := by decide +kernel
theorem dX3_lookAround_30 : decode cX3_lookAround 30 = .ok (.invokevirtual 83, 3) := by decide +kernel
theorem dX3_lookAround_33 : decode cX3_lookAround 33 = .ok (.istore_n 3, 1) := by decide +kernel
theorem dX3_lookAround_34 : decode cX3_lookAround 34 = .ok (.iload_n 3, 1) := by decide +kernel
theorem dX3_lookAround_35 : decode cX3_lookAround 35 = .ok (.istore 4, 2) := by decide +kernel
theorem dX3_lookAround_37 : decode cX3_lookAround 37 = .ok (.iconst 0, 1) := by decide +kernel
theorem dX3_lookAround_38 : decode cX3_lookAround 38 = .ok (.istore 5, 2) := by decide +kernel
theorem dX3_lookAround_40 : decode cX3_lookAround 40 = .ok (.iload 5, 2) := by decide +kernel
theorem dX3_lookAround_42 : decode cX3_lookAround 42 = .ok (.aload_n 1, 1) := by decide +kernel
theorem dX3_lookAround_43 : decode cX3_lookAround 43 = .ok (.getfield 62, 3) := by decide +kernel
theorem dX3_lookAround_46 : decode cX3_lookAround 46 = .ok (.getfield 112, 3) := by decide +kernel
theorem dX3_lookAround_49 : decode cX3_lookAround 49 = .ok (.if_icmp .ge 152, 3) := by decide +kernel
theorem dX3_lookAround_52 : decode cX3_lookAround 52 = .ok (.iconst 0, 1) := by decide +kernel
theorem dX3_lookAround_53 : decode cX3_lookAround 53 = .ok (.istore 6, 2) := by decide +kernel
theorem dX3_lookAround_55 : decode cX3_lookAround 55 = .ok (.aload_n 1, 1) := by decide +kernel
theorem dX3_lookAround_56 : decode cX3_lookAround 56 = .ok (.getfield 62, 3) := by decide +kernel
theorem dX3_lookAround_59 : decode cX3_lookAround 59 = .ok (.getfield 115, 3) := by decide +kernel
theorem dX3_lookAround_62 : decode cX3_lookAround 62 = .ok (.iload 5, 2) := by decide +kernel
theorem dX3_lookAround_64 : decode cX3_lookAround 64 = .ok (.iaload, 1) := by decide +kernel
theorem dX3_lookAround_65 : decode cX3_lookAround 65 = .ok (.iconst (-1), 1) := by decide +kernel
theorem dX3_lookAround_66 : decode cX3_lookAround 66 = .ok (.if_icmp .ne 118, 3) := by decide +kernel
theorem dX3_lookAround_69 : decode cX3_lookAround 69 = .ok (.iload 6, 2) := by decide +kernel
theorem dX3_lookAround_71 : decode cX3_lookAround 71 = .ok (.aload_n 1, 1) := by decide +kernel
theorem dX3_lookAround_72 : decode cX3_lookAround 72 = .ok (.getfield 90, 3) := by decide +kernel
theorem dX3_lookAround_75 : decode cX3_lookAround 75 = .ok (.if_icmp .ge 109, 3) := by decide +kernel
theorem dX3_lookAround_78 : decode cX3_lookAround 78 = .ok (.aload_n 0, 1) := by decide +kernel
theorem dX3_lookAround_79 : decode cX3_lookAround 79 = .ok (.getfield 18, 3) := by decide +kernel
theorem dX3_lookAround_82 : decode cX3_lookAround 82 = .ok (.iload 5, 2) := by decide +kernel
theorem dX3_lookAround_84 : decode cX3_lookAround 84 = .ok (.iload 6, 2) := by decide +kernel
theorem dX3_lookAround_86 : decode cX3_lookAround 86 = .ok (.iastore, 1) := by decide +kernel
theorem dX3_lookAround_87 : decode cX3_lookAround 87 = .ok (.iload 6, 2) := by decide +kernel
theorem dX3_lookAround_89 : decode cX3_lookAround 89 = .ok (.aload_n 2, 1) := by decide +kernel
theorem dX3_lookAround_90 : decode cX3_lookAround 90 = .ok (.iload 5, 2) := by decide +kernel
theorem dX3_lookAround_92 : decode cX3_lookAround 92 = .ok (.iaload, 1) := by decide +kernel
theorem dX3_lookAround_93 : decode cX3_lookAround 93 = .ok (.if_icmp .eq 85, 3) := by decide +kernel
theorem dX3_lookAround_96 : decode cX3_lookAround 96 = .ok (.aload_n 0, 1) := by decide +kernel
theorem dX3_lookAround_97 : decode cX3_lookAround 97 = .ok (.getfield 12, 3) := by decide +kernel
theorem dX3_lookAround_100 : decode cX3_lookAround 100 = .ok (.aload_n 1, 1) := by decide +kernel
theorem dX3_lookAround_101 : decode cX3_lookAround 101 = .ok (.aload_n 1, 1) := by decide +kernel
theorem dX3_lookAround_102 : decode cX3_lookAround 102 = .ok (.getfield 75, 3) := by decide +kernel
theorem dX3_lookAround_105 : decode cX3_lookAround 105 = .ok (.aload_n 0, 1) := by decide +kernel
theorem dX3_lookAround_106 : decode cX3_lookAround 106 = .ok (.getfield 18, 3) := by decide +kernel
theorem dX3_lookAround_109 : decode cX3_lookAround 109 = .ok (.invokevirtual 79, 3) := by decide +kernel
theorem dX3_lookAround_112 : decode cX3_lookAround 112 = .ok (.ifCond .eq 66, 3) := by decide +kernel
theorem dX3_lookAround_115 : decode cX3_lookAround 115 = .ok (.aload_n 1, 1) := by decide +kernel
theorem dX3_lookAround_116 : decode cX3_lookAround 116 = .ok (.aload_n 0, 1) := by decide +kernel
theorem dX3_lookAround_117 : decode cX3_lookAround 117 = .ok (.getfield 18, 3) := by decide +kernel
theorem dX3_lookAround_120 : decode cX3_lookAround 120 = .ok (.invokevirtual 83, 3) := by decide +kernel
theorem dX3_lookAround_123 : decode cX3_lookAround 123 = .ok (.istore 7, 2) := by decide +kernel
theorem dX3_lookAround_125 : decode cX3_lookAround 125 = .ok (.aload_n 0, 1) := by decide +kernel
theorem dX3_lookAround_126 : decode cX3_lookAround 126 = .ok (.dup, 1) := by decide +kernel
theorem dX3_lookAround_127 : decode cX3_lookAround 127 = .ok (.getfield 122, 3) := by decide +kernel
theorem dX3_lookAround_130 : decode cX3_lookAround 130 = .ok (.iconst 1, 1) := by decide +kernel
theorem dX3_lookAround_131 : decode cX3_lookAround 131 = .ok (.iadd, 1) := by decide +kernel
theorem dX3_lookAround_132 : decode cX3_lookAround 132 = .ok (.putfield 122, 3) := by decide +kernel
theorem dX3_lookAround_135 : decode cX3_lookAround 135 = .ok (.aload_n 0, 1) := by decide +kernel
theorem dX3_lookAround_136 : decode cX3_lookAround 136 = .ok (.dup, 1) := by decide +kernel
theorem dX3_lookAround_137 : decode cX3_lookAround 137 = .ok (.getfield 125, 3) := by decide +kernel
theorem dX3_lookAround_140 : decode cX3_lookAround 140 = .ok (.iload 7, 2) := by decide +kernel
theorem dX3_lookAround_142 : decode cX3_lookAround 142 = .ok (.iload_n 3, 1) := by decide +kernel
theorem dX3_lookAround_143 : decode cX3_lookAround 143 = .ok (.if_icmp .ge 7, 3) := by decide +kernel
theorem dX3_lookAround_146 : decode cX3_lookAround 146 = .ok (.iconst 1, 1) := by decide +kernel
theorem dX3_lookAround_147 : decode cX3_lookAround 147 = .ok (.goto 4, 3) := by decide +kernel
theorem dX3_lookAround_150 : decode cX3_lookAround 150 = .ok (.iconst 0, 1) := by decide +kernel
theorem dX3_lookAround_151 : decode cX3_lookAround 151 = .ok (.iadd, 1) := by decide +kernel
theorem dX3_lookAround_152 : decode cX3_lookAround 152 = .ok (.putfield 125, 3) := by decide +kernel
theorem dX3_lookAround_155 : decode cX3_lookAround 155 = .ok (.iload 7, 2) := by decide +kernel
theorem dX3_lookAround_157 : decode cX3_lookAround 157 = .ok (.iload 4, 2) := by decide +kernel
theorem dX3_lookAround_159 : decode cX3_lookAround 159 = .ok (.if_icmp .ge 19, 3) := by decide +kernel
theorem dX3_lookAround_162 : decode cX3_lookAround 162 = .ok (.iload 7, 2) := by decide +kernel
theorem dX3_lookAround_164 : decode cX3_lookAround 164 = .ok (.istore 4, 2) := by decide +kernel
theorem dX3_lookAround_166 : decode cX3_lookAround 166 = .ok (.aload_n 0, 1) := by decide +kernel
theorem dX3_lookAround_167 : decode cX3_lookAround 167 = .ok (.iload 5, 2) := by decide +kernel
theorem dX3_lookAround_169 : decode cX3_lookAround 169 = .ok (.putfield 38, 3) := by decide +kernel
theorem dX3_lookAround_172 : decode cX3_lookAround 172 = .ok (.aload_n 0, 1) := by decide +kernel
theorem dX3_lookAround_173 : decode cX3_lookAround 173 = .ok (.iload 6, 2) := by decide +kernel
theorem dX3_lookAround_175 : decode cX3_lookAround 175 = .ok (.putfield 42, 3) := by decide +kernel
theorem dX3_lookAround_178 : decode cX3_lookAround 178 = .ok (.iinc 6 1, 3) := by decide +kernel
theorem dX3_lookAround_181 : decode cX3_lookAround 181 = .ok (.goto (-126), 3) := by decide +kernel
theorem dX3_lookAround_184 : decode cX3_lookAround 184 = .ok (.aload_n 0, 1) := by decide +kernel
theorem dX3_lookAround_185 : decode cX3_lookAround 185 = .ok (.getfield 18, 3) := by decide +kernel
theorem dX3_lookAround_188 : decode cX3_lookAround 188 = .ok (.iload 5, 2) := by decide +kernel
theorem dX3_lookAround_190 : decode cX3_lookAround 190 = .ok (.aload_n 2, 1) := by decide +kernel
theorem dX3_lookAround_191 : decode cX3_lookAround 191 = .ok (.iload 5, 2) := by decide +kernel
theorem dX3_lookAround_193 : decode cX3_lookAround 193 = .ok (.iaload, 1) := by decide +kernel
theorem dX3_lookAround_194 : decode cX3_lookAround 194 = .ok (.iastore, 1) := by decide +kernel
theorem dX3_lookAround_195 : decode cX3_lookAround 195 = .ok (.iinc 5 1, 3) := by decide +kernel
theorem dX3_lookAround_198 : decode cX3_lookAround 198 = .ok (.goto (-158), 3) := by decide +kernel
theorem dX3_lookAround_201 : decode cX3_lookAround 201 = .ok (.return_, 1) := by decide +kernel
theorem dX4_init_0 : decode cX4_init 0 = .ok (.aload_n 0, 1) := by decide +kernel
theorem dX4_init_1 : decode cX4_init 1 = .ok (.invokespecial 3, 3) := by decide +kernel
theorem dX4_init_4 : decode cX4_init 4 = .ok (.aload_n 0, 1) := by decide +kernel
theorem dX4_init_5 : decode cX4_init 5 = .ok (.bipush 14, 2) := by decide +kernel
theorem dX4_init_7 : decode cX4_init 7 = .ok (.newarray .int, 2) := by decide +kernel
theorem dX4_init_9 : decode cX4_init 9 = .ok (.putfield 9, 3) := by decide +kernel
theorem dX4_init_12 : decode cX4_init 12 = .ok (.aload_n 0, 1) := by decide +kernel
theorem dX4_init_13 : decode cX4_init 13 = .ok (.bipush 14, 2) := by decide +kernel
theorem dX4_init_15 : decode cX4_init 15 = .ok (.newarray .int, 2) := by decide +kernel
theorem dX4_init_17 : decode cX4_init 17 = .ok (.putfield 15, 3) := by decide +kernel
theorem dX4_init_20 : decode cX4_init 20 = .ok (.aload_n 0, 1) := by decide +kernel
theorem dX4_init_21 : decode cX4_init 21 = .ok (.bipush 14, 2) := by decide +kernel
theorem dX4_init_23 : decode cX4_init 23 = .ok (.newarray .int, 2) := by decide +kernel
theorem dX4_init_25 : decode cX4_init 25 = .ok (.putfield 18, 3) := by decide +kernel
theorem dX4_init_28 : decode cX4_init 28 = .ok (.aload_n 0, 1) := by decide +kernel
theorem dX4_init_29 : decode cX4_init 29 = .ok (.bipush 14, 2) := by decide +kernel
theorem dX4_init_31 : decode cX4_init 31 = .ok (.newarray .int, 2) := by decide +kernel
theorem dX4_init_33 : decode cX4_init 33 = .ok (.putfield 21, 3) := by decide +kernel
theorem dX4_init_36 : decode cX4_init 36 = .ok (.aload_n 0, 1) := by decide +kernel
theorem dX4_init_37 : decode cX4_init 37 = .ok (.bipush 14, 2) := by decide +kernel
theorem dX4_init_39 : decode cX4_init 39 = .ok (.newarray .int, 2) := by decide +kernel
theorem dX4_init_41 : decode cX4_init 41 = .ok (.putfield 24, 3) := by decide +kernel
theorem dX4_init_44 : decode cX4_init 44 = .ok (.aload_n 0, 1) := by decide +kernel
theorem dX4_init_45 : decode cX4_init 45 = .ok (.bipush 14, 2) := by decide +kernel
theorem dX4_init_47 : decode cX4_init 47 = .ok (.newarray .int, 2) := by decide +kernel
theorem dX4_init_49 : decode cX4_init 49 = .ok (.putfield 27, 3) := by decide +kernel
theorem dX4_init_52 : decode cX4_init 52 = .ok (.aload_n 0, 1) := by decide +kernel
theorem dX4_init_53 : decode cX4_init 53 = .ok (.bipush 28, 2) := by decide +kernel
theorem dX4_init_55 : decode cX4_init 55 = .ok (.newarray .int, 2) := by decide +kernel
theorem dX4_init_57 : decode cX4_init 57 = .ok (.putfield 30, 3) := by decide +kernel
theorem dX4_init_60 : decode cX4_init 60 = .ok (.aload_n 0, 1) := by decide +kernel
theorem dX4_init_61 : decode cX4_init 61 = .ok (.bipush 28, 2) := by decide +kernel
theorem dX4_init_63 : decode cX4_init 63 = .ok (.newarray .int, 2) := by decide +kernel
theorem dX4_init_65 : decode cX4_init 65 = .ok (.putfield 33, 3) := by decide +kernel
theorem dX4_init_68 : decode cX4_init 68 = .ok (.return_, 1) := by decide +kernel
theorem dX4_prepare_0 : decode cX4_prepare 0 = .ok (.aload_n 0, 1) := by decide +kernel
theorem dX4_prepare_1 : decode cX4_prepare 1 = .ok (.getfield 36, 3) := by decide +kernel
theorem dX4_prepare_4 : decode cX4_prepare 4 = .ok (.bipush 14, 2) := by decide +kernel
theorem dX4_prepare_6 : decode cX4_prepare 6 = .ok (.if_icmp .ge 40, 3) := by decide +kernel
theorem dX4_prepare_9 : decode cX4_prepare 9 = .ok (.iload_n 1, 1) := by decide +kernel
theorem dX4_prepare_10 : decode cX4_prepare 10 = .ok (.ifCond .eq 8, 3) := by decide +kernel
theorem dX4_prepare_13 : decode cX4_prepare 13 = .ok (.iload_n 1, 1) := by decide +kernel
theorem dX4_prepare_14 : decode cX4_prepare 14 = .ok (.iconst 1, 1) := by decide +kernel
theorem dX4_prepare_15 : decode cX4_prepare 15 = .ok (.if_icmp .ne 31, 3) := by decide +kernel
theorem dX4_prepare_18 : decode cX4_prepare 18 = .ok (.aload_n 0, 1) := by decide +kernel
theorem dX4_prepare_19 : decode cX4_prepare 19 = .ok (.getfield 30, 3) := by decide +kernel
theorem dX4_prepare_22 : decode cX4_prepare 22 = .ok (.iconst 2, 1) := by decide +kernel
theorem dX4_prepare_23 : decode cX4_prepare 23 = .ok (.aload_n 0, 1) := by decide +kernel
theorem dX4_prepare_24 : decode cX4_prepare 24 = .ok (.getfield 36, 3) := by decide +kernel
theorem dX4_prepare_27 : decode cX4_prepare 27 = .ok (.imul, 1) := by decide +kernel
theorem dX4_prepare_28 : decode cX4_prepare 28 = .ok (.iload_n 1, 1) := by decide +kernel
theorem dX4_prepare_29 : decode cX4_prepare 29 = .ok (.iadd, 1) := by decide +kernel
theorem dX4_prepare_30 : decode cX4_prepare 30 = .ok (.iload_n 2, 1) := by decide +kernel
theorem dX4_prepare_31 : decode cX4_prepare 31 = .ok (.iastore, 1) := by decide +kernel
theorem dX4_prepare_32 : decode cX4_prepare 32 = .ok (.aload_n 0, 1) := by decide +kernel
theorem dX4_prepare_33 : decode cX4_prepare 33 = .ok (.getfield 33, 3) := by decide +kernel
theorem dX4_prepare_36 : decode cX4_prepare 36 = .ok (.iconst 2, 1) := by decide +kernel
theorem dX4_prepare_37 : decode cX4_prepare 37 = .ok (.aload_n 0, 1) := by decide +kernel
theorem dX4_prepare_38 : decode cX4_prepare 38 = .ok (.getfield 36, 3) := by decide +kernel
theorem dX4_prepare_41 : decode cX4_prepare 41 = .ok (.imul, 1) := by decide +kernel
theorem dX4_prepare_42 : decode cX4_prepare 42 = .ok (.iload_n 1, 1) := by decide +kernel
theorem dX4_prepare_43 : decode cX4_prepare 43 = .ok (.iadd, 1) := by decide +kernel
theorem dX4_prepare_44 : decode cX4_prepare 44 = .ok (.iload_n 3, 1) := by decide +kernel
theorem dX4_prepare_45 : decode cX4_prepare 45 = .ok (.iastore, 1) := by decide +kernel
theorem dX4_prepare_46 : decode cX4_prepare 46 = .ok (.return_, 1) := by decide +kernel
theorem dX4_add_0 : decode cX4_add 0 = .ok (.aload_n 0, 1) := by decide +kernel
theorem dX4_add_1 : decode cX4_add 1 = .ok (.getfield 36, 3) := by decide +kernel
theorem dX4_add_4 : decode cX4_add 4 = .ok (.bipush 14, 2) := by decide +kernel
theorem dX4_add_6 : decode cX4_add 6 = .ok (.if_icmp .lt 4, 3) := by decide +kernel
theorem dX4_add_9 : decode cX4_add 9 = .ok (.return_, 1) := by decide +kernel
theorem dX4_add_10 : decode cX4_add 10 = .ok (.aload_n 0, 1) := by decide +kernel
theorem dX4_add_11 : decode cX4_add 11 = .ok (.getfield 9, 3) := by decide +kernel
theorem dX4_add_14 : decode cX4_add 14 = .ok (.aload_n 0, 1) := by decide +kernel
theorem dX4_add_15 : decode cX4_add 15 = .ok (.getfield 36, 3) := by decide +kernel
theorem dX4_add_18 : decode cX4_add 18 = .ok (.iload_n 1, 1) := by decide +kernel
theorem dX4_add_19 : decode cX4_add 19 = .ok (.iastore, 1) := by decide +kernel
theorem dX4_add_20 : decode cX4_add 20 = .ok (.aload_n 0, 1) := by decide +kernel
theorem dX4_add_21 : decode cX4_add 21 = .ok (.getfield 15, 3) := by decide +kernel
theorem dX4_add_24 : decode cX4_add 24 = .ok (.aload_n 0, 1) := by decide +kernel
theorem dX4_add_25 : decode cX4_add 25 = .ok (.getfield 36, 3) := by decide +kernel
theorem dX4_add_28 : decode cX4_add 28 = .ok (.iload_n 2, 1) := by decide +kernel
theorem dX4_add_29 : decode cX4_add 29 = .ok (.iastore, 1) := by decide +kernel
theorem dX4_add_30 : decode cX4_add 30 = .ok (.aload_n 0, 1) := by decide +kernel
theorem dX4_add_31 : decode cX4_add 31 = .ok (.getfield 18, 3) := by decide +kernel
theorem dX4_add_34 : decode cX4_add 34 = .ok (.aload_n 0, 1) := by decide +kernel
theorem dX4_add_35 : decode cX4_add 35 = .ok (.getfield 36, 3) := by decide +kernel
theorem dX4_add_38 : decode cX4_add 38 = .ok (.iconst (-1), 1) := by decide +kernel
theorem dX4_add_39 : decode cX4_add 39 = .ok (.iastore, 1) := by decide +kernel
theorem dX4_add_40 : decode cX4_add 40 = .ok (.aload_n 0, 1) := by decide +kernel
theorem dX4_add_41 : decode cX4_add 41 = .ok (.getfield 21, 3) := by decide +kernel
theorem dX4_add_44 : decode cX4_add 44 = .ok (.aload_n 0, 1) := by decide +kernel
theorem dX4_add_45 : decode cX4_add 45 = .ok (.getfield 36, 3) := by decide +kernel
theorem dX4_add_48 : decode cX4_add 48 = .ok (.iconst (-1), 1) := by decide +kernel
theorem dX4_add_49 : decode cX4_add 49 = .ok (.iastore, 1) := by decide +kernel
theorem dX4_add_50 : decode cX4_add 50 = .ok (.aload_n 0, 1) := by decide +kernel
theorem dX4_add_51 : decode cX4_add 51 = .ok (.getfield 27, 3) := by decide +kernel
theorem dX4_add_54 : decode cX4_add 54 = .ok (.aload_n 0, 1) := by decide +kernel
theorem dX4_add_55 : decode cX4_add 55 = .ok (.getfield 36, 3) := by decide +kernel
theorem dX4_add_58 : decode cX4_add 58 = .ok (.aload_n 0, 1) := by decide +kernel
theorem dX4_add_59 : decode cX4_add 59 = .ok (.getfield 36, 3) := by decide +kernel
theorem dX4_add_62 : decode cX4_add 62 = .ok (.iastore, 1) := by decide +kernel
theorem dX4_add_63 : decode cX4_add 63 = .ok (.aload_n 0, 1) := by decide +kernel
theorem dX4_add_64 : decode cX4_add 64 = .ok (.getfield 24, 3) := by decide +kernel
theorem dX4_add_67 : decode cX4_add 67 = .ok (.aload_n 0, 1) := by decide +kernel
theorem dX4_add_68 : decode cX4_add 68 = .ok (.getfield 36, 3) := by decide +kernel
theorem dX4_add_71 : decode cX4_add 71 = .ok (.iload_n 2, 1) := by decide +kernel
theorem dX4_add_72 : decode cX4_add 72 = .ok (.ifCond .ne 7, 3) := by decide +kernel
theorem dX4_add_75 : decode cX4_add 75 = .ok (.iconst 0, 1) := by decide +kernel
theorem dX4_add_76 : decode cX4_add 76 = .ok (.goto 18, 3) := by decide +kernel
theorem dX4_add_79 : decode cX4_add 79 = .ok (.iconst 1, 1) := by decide +kernel
theorem dX4_add_80 : decode cX4_add 80 = .ok (.aload_n 0, 1) := by decide +kernel
theorem dX4_add_81 : decode cX4_add 81 = .ok (.iconst 0, 1) := by decide +kernel
theorem dX4_add_82 : decode cX4_add 82 = .ok (.invokevirtual 40, 3) := by decide +kernel
theorem dX4_add_85 : decode cX4_add 85 = .ok (.aload_n 0, 1) := by decide +kernel
theorem dX4_add_86 : decode cX4_add 86 = .ok (.iconst 1, 1) := by decide +kernel
theorem dX4_add_87 : decode cX4_add 87 = .ok (.invokevirtual 40, 3) := by decide +kernel
theorem dX4_add_90 : decode cX4_add 90 = .ok (.invokestatic 44, 3) := by decide +kernel
theorem dX4_add_93 : decode cX4_add 93 = .ok (.iadd, 1) := by decide +kernel
theorem dX4_add_94 : decode cX4_add 94 = .ok (.iastore, 1) := by decide +kernel
theorem dX4_add_95 : decode cX4_add 95 = .ok (.aload_n 0, 1) := by decide +kernel
theorem dX4_add_96 : decode cX4_add 96 = .ok (.dup, 1) := by decide +kernel
theorem dX4_add_97 : decode cX4_add 97 = .ok (.getfield 50, 3) := by decide +kernel
theorem dX4_add_100 : decode cX4_add 100 = .ok (.iload_n 2, 1) := by decide +kernel
theorem dX4_add_101 : decode cX4_add 101 = .ok (.ifCond .ne 7, 3) := by decide +kernel
theorem dX4_add_104 : decode cX4_add 104 = .ok (.iconst 1, 1) := by decide +kernel
theorem dX4_add_105 : decode cX4_add 105 = .ok (.goto 4, 3) := by decide +kernel
theorem dX4_add_108 : decode cX4_add 108 = .ok (.iconst 0, 1) := by decide +kernel
theorem dX4_add_109 : decode cX4_add 109 = .ok (.iadd, 1) := by decide +kernel
theorem dX4_add_110 : decode cX4_add 110 = .ok (.putfield 50, 3) := by decide +kernel
theorem dX4_add_113 : decode cX4_add 113 = .ok (.aload_n 0, 1) := by decide +kernel
theorem dX4_add_114 : decode cX4_add 114 = .ok (.dup, 1) := by decide +kernel
theorem dX4_add_115 : decode cX4_add 115 = .ok (.getfield 36, 3) := by decide +kernel
theorem dX4_add_118 : decode cX4_add 118 = .ok (.iconst 1, 1) := by decide +kernel
theorem dX4_add_119 : decode cX4_add 119 = .ok (.iadd, 1) := by decide +kernel
theorem dX4_add_120 : decode cX4_add 120 = .ok (.putfield 36, 3) := by decide +kernel
theorem dX4_add_123 : decode cX4_add 123 = .ok (.return_, 1) := by decide +kernel
theorem dX4_letsOf_0 : decode cX4_letsOf 0 = .ok (.aload_n 0, 1) := by decide +kernel
theorem dX4_letsOf_1 : decode cX4_letsOf 1 = .ok (.getfield 30, 3) := by decide +kernel
theorem dX4_letsOf_4 : decode cX4_letsOf 4 = .ok (.iconst 2, 1) := by decide +kernel
theorem dX4_letsOf_5 : decode cX4_letsOf 5 = .ok (.aload_n 0, 1) := by decide +kernel
theorem dX4_letsOf_6 : decode cX4_letsOf 6 = .ok (.getfield 36, 3) := by decide +kernel
theorem dX4_letsOf_9 : decode cX4_letsOf 9 = .ok (.imul, 1) := by decide +kernel
theorem dX4_letsOf_10 : decode cX4_letsOf 10 = .ok (.iload_n 1, 1) := by decide +kernel
theorem dX4_letsOf_11 : decode cX4_letsOf 11 = .ok (.iadd, 1) := by decide +kernel
theorem dX4_letsOf_12 : decode cX4_letsOf 12 = .ok (.iaload, 1) := by decide +kernel
theorem dX4_letsOf_13 : decode cX4_letsOf 13 = .ok (.istore_n 2, 1) := by decide +kernel
theorem dX4_letsOf_14 : decode cX4_letsOf 14 = .ok (.iload_n 2, 1) := by decide +kernel
theorem dX4_letsOf_15 : decode cX4_letsOf 15 = .ok (.ifCond .lt 20, 3) := by decide +kernel
theorem dX4_letsOf_18 : decode cX4_letsOf 18 = .ok (.iload_n 2, 1) := by decide +kernel
theorem dX4_letsOf_19 : decode cX4_letsOf 19 = .ok (.aload_n 0, 1) := by decide +kernel
theorem dX4_letsOf_20 : decode cX4_letsOf 20 = .ok (.getfield 36, 3) := by decide +kernel
theorem dX4_letsOf_23 : decode cX4_letsOf 23 = .ok (.if_icmp .ge 12, 3) := by decide +kernel
theorem dX4_letsOf_26 : decode cX4_letsOf 26 = .ok (.aload_n 0, 1) := by decide +kernel
theorem dX4_letsOf_27 : decode cX4_letsOf 27 = .ok (.getfield 24, 3) := by decide +kernel
theorem dX4_letsOf_30 : decode cX4_letsOf 30 = .ok (.iload_n 2, 1) := by decide +kernel
theorem dX4_letsOf_31 : decode cX4_letsOf 31 = .ok (.iaload, 1) := by decide +kernel
theorem dX4_letsOf_32 : decode cX4_letsOf 32 = .ok (.goto 4, 3) := by decide +kernel
theorem dX4_letsOf_35 : decode cX4_letsOf 35 = .ok (.iconst 0, 1) := by decide +kernel
theorem dX4_letsOf_36 : decode cX4_letsOf 36 = .ok (.ireturn, 1) := by decide +kernel
theorem dX4_join_0 : decode cX4_join 0 = .ok (.iload_n 1, 1) := by decide +kernel
theorem dX4_join_1 : decode cX4_join 1 = .ok (.ifCond .lt 23, 3) := by decide +kernel
theorem dX4_join_4 : decode cX4_join 4 = .ok (.iload_n 1, 1) := by decide +kernel
theorem dX4_join_5 : decode cX4_join 5 = .ok (.aload_n 0, 1) := by decide +kernel
theorem dX4_join_6 : decode cX4_join 6 = .ok (.getfield 36, 3) := by decide +kernel
theorem dX4_join_9 : decode cX4_join 9 = .ok (.if_icmp .ge 15, 3) := by decide +kernel
theorem dX4_join_12 : decode cX4_join 12 = .ok (.iload_n 2, 1) := by decide +kernel
theorem dX4_join_13 : decode cX4_join 13 = .ok (.ifCond .lt 11, 3) := by decide +kernel
theorem dX4_join_16 : decode cX4_join 16 = .ok (.iload_n 2, 1) := by decide +kernel
theorem dX4_join_17 : decode cX4_join 17 = .ok (.aload_n 0, 1) := by decide +kernel
theorem dX4_join_18 : decode cX4_join 18 = .ok (.getfield 36, 3) := by decide +kernel
theorem dX4_join_21 : decode cX4_join 21 = .ok (.if_icmp .lt 4, 3) := by decide +kernel
theorem dX4_join_24 : decode cX4_join 24 = .ok (.return_, 1) := by decide +kernel
theorem dX4_join_25 : decode cX4_join 25 = .ok (.aload_n 0, 1) := by decide +kernel
theorem dX4_join_26 : decode cX4_join 26 = .ok (.getfield 27, 3) := by decide +kernel
theorem dX4_join_29 : decode cX4_join 29 = .ok (.iload_n 2, 1) := by decide +kernel
theorem dX4_join_30 : decode cX4_join 30 = .ok (.iaload, 1) := by decide +kernel
theorem dX4_join_31 : decode cX4_join 31 = .ok (.istore_n 3, 1) := by decide +kernel
theorem dX4_join_32 : decode cX4_join 32 = .ok (.iconst 0, 1) := by decide +kernel
theorem dX4_join_33 : decode cX4_join 33 = .ok (.istore 4, 2) := by decide +kernel
theorem dX4_join_35 : decode cX4_join 35 = .ok (.iload 4, 2) := by decide +kernel
theorem dX4_join_37 : decode cX4_join 37 = .ok (.aload_n 0, 1) := by decide +kernel
theorem dX4_join_38 : decode cX4_join 38 = .ok (.getfield 36, 3) := by decide +kernel
theorem dX4_join_41 : decode cX4_join 41 = .ok (.if_icmp .ge 33, 3) := by decide +kernel
theorem dX4_join_44 : decode cX4_join 44 = .ok (.aload_n 0, 1) := by decide +kernel
theorem dX4_join_45 : decode cX4_join 45 = .ok (.getfield 27, 3) := by decide +kernel
theorem dX4_join_48 : decode cX4_join 48 = .ok (.iload 4, 2) := by decide +kernel
theorem dX4_join_50 : decode cX4_join 50 = .ok (.iaload, 1) := by decide +kernel
theorem dX4_join_51 : decode cX4_join 51 = .ok (.iload_n 3, 1) := by decide +kernel
theorem dX4_join_52 : decode cX4_join 52 = .ok (.if_icmp .ne 16, 3) := by decide +kernel
theorem dX4_join_55 : decode cX4_join 55 = .ok (.aload_n 0, 1) := by decide +kernel
theorem dX4_join_56 : decode cX4_join 56 = .ok (.getfield 27, 3) := by decide +kernel
theorem dX4_join_59 : decode cX4_join 59 = .ok (.iload 4, 2) := by decide +kernel
theorem dX4_join_61 : decode cX4_join 61 = .ok (.aload_n 0, 1) := by decide +kernel
theorem dX4_join_62 : decode cX4_join 62 = .ok (.getfield 27, 3) := by decide +kernel
theorem dX4_join_65 : decode cX4_join 65 = .ok (.iload_n 1, 1) := by decide +kernel
theorem dX4_join_66 : decode cX4_join 66 = .ok (.iaload, 1) := by decide +kernel
theorem dX4_join_67 : decode cX4_join 67 = .ok (.iastore, 1) := by decide +kernel
theorem dX4_join_68 : decode cX4_join 68 = .ok (.iinc 4 1, 3) := by decide +kernel
theorem dX4_join_71 : decode cX4_join 71 = .ok (.goto (-36), 3) := by decide +kernel
theorem dX4_join_74 : decode cX4_join 74 = .ok (.return_, 1) := by decide +kernel
theorem dX4_find_0 : decode cX4_find 0 = .ok (.iconst 0, 1) := by decide +kernel
theorem dX4_find_1 : decode cX4_find 1 = .ok (.istore_n 2, 1) := by decide +kernel
theorem dX4_find_2 : decode cX4_find 2 = .ok (.iload_n 2, 1) := by decide +kernel
theorem dX4_find_3 : decode cX4_find 3 = .ok (.aload_n 0, 1) := by decide +kernel
theorem dX4_find_4 : decode cX4_find 4 = .ok (.getfield 36, 3) := by decide +kernel
theorem dX4_find_7 : decode cX4_find 7 = .ok (.if_icmp .ge 21, 3) := by decide +kernel
theorem dX4_find_10 : decode cX4_find 10 = .ok (.aload_n 0, 1) := by decide +kernel
theorem dX4_find_11 : decode cX4_find 11 = .ok (.getfield 9, 3) := by decide +kernel
theorem dX4_find_14 : decode cX4_find 14 = .ok (.iload_n 2, 1) := by decide +kernel
theorem dX4_find_15 : decode cX4_find 15 = .ok (.iaload, 1) := by decide +kernel
theorem dX4_find_16 : decode cX4_find 16 = .ok (.iload_n 1, 1) := by decide +kernel
theorem dX4_find_17 : decode cX4_find 17 = .ok (.if_icmp .ne 5, 3) := by decide +kernel
theorem dX4_find_20 : decode cX4_find 20 = .ok (.iload_n 2, 1) := by decide +kernel
theorem dX4_find_21 : decode cX4_find 21 = .ok (.ireturn, 1) := by decide +kernel
theorem dX4_find_22 : decode cX4_find 22 = .ok (.iinc 2 1, 3) := by decide +kernel
theorem dX4_find_25 : decode cX4_find 25 = .ok (.goto (-23), 3) := by decide +kernel
theorem dX4_find_28 : decode cX4_find 28 = .ok (.iconst (-1), 1) := by decide +kernel
theorem dX4_find_29 : decode cX4_find 29 = .ok (.ireturn, 1) := by decide +kernel
theorem dX4_fix_0 : decode cX4_fix 0 = .ok (.iload_n 1, 1) := by decide +kernel
theorem dX4_fix_1 : decode cX4_fix 1 = .ok (.ifCond .lt 18, 3) := by decide +kernel
theorem dX4_fix_4 : decode cX4_fix 4 = .ok (.iload_n 1, 1) := by decide +kernel
theorem dX4_fix_5 : decode cX4_fix 5 = .ok (.aload_n 0, 1) := by decide +kernel
theorem dX4_fix_6 : decode cX4_fix 6 = .ok (.getfield 36, 3) := by decide +kernel
theorem dX4_fix_9 : decode cX4_fix 9 = .ok (.if_icmp .ge 10, 3) := by decide +kernel
theorem dX4_fix_12 : decode cX4_fix 12 = .ok (.aload_n 0, 1) := by decide +kernel
theorem dX4_fix_13 : decode cX4_fix 13 = .ok (.getfield 18, 3) := by decide +kernel
theorem dX4_fix_16 : decode cX4_fix 16 = .ok (.iload_n 1, 1) := by decide +kernel
theorem dX4_fix_17 : decode cX4_fix 17 = .ok (.iload_n 2, 1) := by decide +kernel
theorem dX4_fix_18 : decode cX4_fix 18 = .ok (.iastore, 1) := by decide +kernel
theorem dX4_fix_19 : decode cX4_fix 19 = .ok (.return_, 1) := by decide +kernel
theorem dX4_allow_0 : decode cX4_allow 0 = .ok (.iload_n 1, 1) := by decide +kernel
theorem dX4_allow_1 : decode cX4_allow 1 = .ok (.ifCond .lt 18, 3) := by decide +kernel
theorem dX4_allow_4 : decode cX4_allow 4 = .ok (.iload_n 1, 1) := by decide +kernel
theorem dX4_allow_5 : decode cX4_allow 5 = .ok (.aload_n 0, 1) := by decide +kernel
theorem dX4_allow_6 : decode cX4_allow 6 = .ok (.getfield 36, 3) := by decide +kernel
theorem dX4_allow_9 : decode cX4_allow 9 = .ok (.if_icmp .ge 10, 3) := by decide +kernel
theorem dX4_allow_12 : decode cX4_allow 12 = .ok (.aload_n 0, 1) := by decide +kernel
theorem dX4_allow_13 : decode cX4_allow 13 = .ok (.getfield 21, 3) := by decide +kernel
theorem dX4_allow_16 : decode cX4_allow 16 = .ok (.iload_n 1, 1) := by decide +kernel
theorem dX4_allow_17 : decode cX4_allow 17 = .ok (.iload_n 2, 1) := by decide +kernel
theorem dX4_allow_18 : decode cX4_allow 18 = .ok (.iastore, 1) := by decide +kernel
theorem dX4_allow_19 : decode cX4_allow 19 = .ok (.return_, 1) := by decide +kernel
theorem dX4_madeOf_0 : decode cX4_madeOf 0 = .ok (.iload_n 1, 1) := by decide +kernel
theorem dX4_madeOf_1 : decode cX4_madeOf 1 = .ok (.ifCond .lt 33, 3) := by decide +kernel
theorem dX4_madeOf_4 : decode cX4_madeOf 4 = .ok (.iload_n 1, 1) := by decide +kernel
theorem dX4_madeOf_5 : decode cX4_madeOf 5 = .ok (.aload_n 0, 1) := by decide +kernel
theorem dX4_madeOf_6 : decode cX4_madeOf 6 = .ok (.getfield 36, 3) := by decide +kernel
theorem dX4_madeOf_9 : decode cX4_madeOf 9 = .ok (.if_icmp .ge 25, 3) := by decide +kernel
theorem dX4_madeOf_12 : decode cX4_madeOf 12 = .ok (.iload_n 2, 1) := by decide +kernel
theorem dX4_madeOf_13 : decode cX4_madeOf 13 = .ok (.ifCond .lt 21, 3) := by decide +kernel
theorem dX4_madeOf_16 : decode cX4_madeOf 16 = .ok (.iload_n 2, 1) := by decide +kernel
theorem dX4_madeOf_17 : decode cX4_madeOf 17 = .ok (.iconst 2, 1) := by decide +kernel
theorem dX4_madeOf_18 : decode cX4_madeOf 18 = .ok (.if_icmp .ge 16, 3) := by decide +kernel
theorem dX4_madeOf_21 : decode cX4_madeOf 21 = .ok (.aload_n 0, 1) := by decide +kernel
theorem dX4_madeOf_22 : decode cX4_madeOf 22 = .ok (.getfield 30, 3) := by decide +kernel
theorem dX4_madeOf_25 : decode cX4_madeOf 25 = .ok (.iconst 2, 1) := by decide +kernel
theorem dX4_madeOf_26 : decode cX4_madeOf 26 = .ok (.iload_n 1, 1) := by decide +kernel
theorem dX4_madeOf_27 : decode cX4_madeOf 27 = .ok (.imul, 1) := by decide +kernel
theorem dX4_madeOf_28 : decode cX4_madeOf 28 = .ok (.iload_n 2, 1) := by decide +kernel
theorem dX4_madeOf_29 : decode cX4_madeOf 29 = .ok (.iadd, 1) := by decide +kernel
theorem dX4_madeOf_30 : decode cX4_madeOf 30 = .ok (.iaload, 1) := by decide +kernel
theorem dX4_madeOf_31 : decode cX4_madeOf 31 = .ok (.goto 4, 3) := by decide +kernel
theorem dX4_madeOf_34 : decode cX4_madeOf 34 = .ok (.iconst (-1), 1) := by decide +kernel
theorem dX4_madeOf_35 : decode cX4_madeOf 35 = .ok (.ireturn, 1) := by decide +kernel
theorem dX4_amountOf_0 : decode cX4_amountOf 0 = .ok (.iload_n 1, 1) := by decide +kernel
theorem dX4_amountOf_1 : decode cX4_amountOf 1 = .ok (.ifCond .lt 34, 3) := by decide +kernel
theorem dX4_amountOf_4 : decode cX4_amountOf 4 = .ok (.iload_n 1, 1) := by decide +kernel
theorem dX4_amountOf_5 : decode cX4_amountOf 5 = .ok (.aload_n 0, 1) := by decide +kernel
theorem dX4_amountOf_6 : decode cX4_amountOf 6 = .ok (.getfield 36, 3) := by decide +kernel
theorem dX4_amountOf_9 : decode cX4_amountOf 9 = .ok (.if_icmp .ge 26, 3) := by decide +kernel
theorem dX4_amountOf_12 : decode cX4_amountOf 12 = .ok (.iload_n 2, 1) := by decide +kernel
theorem dX4_amountOf_13 : decode cX4_amountOf 13 = .ok (.ifCond .lt 22, 3) := by decide +kernel
theorem dX4_amountOf_16 : decode cX4_amountOf 16 = .ok (.iload_n 2, 1) := by decide +kernel
theorem dX4_amountOf_17 : decode cX4_amountOf 17 = .ok (.iconst 2, 1) := by decide +kernel
theorem dX4_amountOf_18 : decode cX4_amountOf 18 = .ok (.if_icmp .ge 17, 3) := by decide +kernel
theorem dX4_amountOf_21 : decode cX4_amountOf 21 = .ok (.aload_n 0, 1) := by decide +kernel
theorem dX4_amountOf_22 : decode cX4_amountOf 22 = .ok (.getfield 33, 3) := by decide +kernel
theorem dX4_amountOf_25 : decode cX4_amountOf 25 = .ok (.iconst 2, 1) := by decide +kernel
theorem dX4_amountOf_26 : decode cX4_amountOf 26 = .ok (.iload_n 1, 1) := by decide +kernel
theorem dX4_amountOf_27 : decode cX4_amountOf 27 = .ok (.imul, 1) := by decide +kernel
theorem dX4_amountOf_28 : decode cX4_amountOf 28 = .ok (.iload_n 2, 1) := by decide +kernel
theorem dX4_amountOf_29 : decode cX4_amountOf 29 = .ok (.iadd, 1) := by decide +kernel
theorem dX4_amountOf_30 : decode cX4_amountOf 30 = .ok (.iaload, 1) := by decide +kernel
theorem dX4_amountOf_31 : decode cX4_amountOf 31 = .ok (.i2l, 1) := by decide +kernel
theorem dX4_amountOf_32 : decode cX4_amountOf 32 = .ok (.goto 4, 3) := by decide +kernel
theorem dX4_amountOf_35 : decode cX4_amountOf 35 = .ok (.lconst 0, 1) := by decide +kernel
theorem dX4_amountOf_36 : decode cX4_amountOf 36 = .ok (.lreturn, 1) := by decide +kernel
theorem dX4_countAnswers_0 : decode cX4_countAnswers 0 = .ok (.iconst 0, 1) := by decide +kernel
theorem dX4_countAnswers_1 : decode cX4_countAnswers 1 = .ok (.istore_n 2, 1) := by decide +kernel
theorem dX4_countAnswers_2 : decode cX4_countAnswers 2 = .ok (.iconst 0, 1) := by decide +kernel
theorem dX4_countAnswers_3 : decode cX4_countAnswers 3 = .ok (.istore_n 3, 1) := by decide +kernel
theorem dX4_countAnswers_4 : decode cX4_countAnswers 4 = .ok (.iload_n 3, 1) := by decide +kernel
theorem dX4_countAnswers_5 : decode cX4_countAnswers 5 = .ok (.iload_n 1, 1) := by decide +kernel
theorem dX4_countAnswers_6 : decode cX4_countAnswers 6 = .ok (.if_icmp .ge 35, 3) := by decide +kernel
theorem dX4_countAnswers_9 : decode cX4_countAnswers 9 = .ok (.iload_n 3, 1) := by decide +kernel
theorem dX4_countAnswers_10 : decode cX4_countAnswers 10 = .ok (.aload_n 0, 1) := by decide +kernel
theorem dX4_countAnswers_11 : decode cX4_countAnswers 11 = .ok (.getfield 36, 3) := by decide +kernel
theorem dX4_countAnswers_14 : decode cX4_countAnswers 14 = .ok (.if_icmp .ge 27, 3) := by decide +kernel
theorem dX4_countAnswers_17 : decode cX4_countAnswers 17 = .ok (.iload_n 2, 1) := by decide +kernel
theorem dX4_countAnswers_18 : decode cX4_countAnswers 18 = .ok (.aload_n 0, 1) := by decide +kernel
theorem dX4_countAnswers_19 : decode cX4_countAnswers 19 = .ok (.getfield 21, 3) := by decide +kernel
theorem dX4_countAnswers_22 : decode cX4_countAnswers 22 = .ok (.iload_n 3, 1) := by decide +kernel
theorem dX4_countAnswers_23 : decode cX4_countAnswers 23 = .ok (.iaload, 1) := by decide +kernel
theorem dX4_countAnswers_24 : decode cX4_countAnswers 24 = .ok (.iconst (-1), 1) := by decide +kernel
theorem dX4_countAnswers_25 : decode cX4_countAnswers 25 = .ok (.if_icmp .eq 7, 3) := by decide +kernel
theorem dX4_countAnswers_28 : decode cX4_countAnswers 28 = .ok (.iconst 1, 1) := by decide +kernel
theorem dX4_countAnswers_29 : decode cX4_countAnswers 29 = .ok (.goto 4, 3) := by decide +kernel
theorem dX4_countAnswers_32 : decode cX4_countAnswers 32 = .ok (.iconst 0, 1) := by decide +kernel
theorem dX4_countAnswers_33 : decode cX4_countAnswers 33 = .ok (.iadd, 1) := by decide +kernel
theorem dX4_countAnswers_34 : decode cX4_countAnswers 34 = .ok (.istore_n 2, 1) := by decide +kernel
theorem dX4_countAnswers_35 : decode cX4_countAnswers 35 = .ok (.iinc 3 1, 3) := by decide +kernel
theorem dX4_countAnswers_38 : decode cX4_countAnswers 38 = .ok (.goto (-34), 3) := by decide +kernel
theorem dX4_countAnswers_41 : decode cX4_countAnswers 41 = .ok (.iload_n 2, 1) := by decide +kernel
theorem dX4_countAnswers_42 : decode cX4_countAnswers 42 = .ok (.ireturn, 1) := by decide +kernel
theorem dX4_madeFrom_0 : decode cX4_madeFrom 0 = .ok (.iconst 0, 1) := by decide +kernel
theorem dX4_madeFrom_1 : decode cX4_madeFrom 1 = .ok (.istore_n 2, 1) := by decide +kernel
theorem dX4_madeFrom_2 : decode cX4_madeFrom 2 = .ok (.iload_n 1, 1) := by decide +kernel
theorem dX4_madeFrom_3 : decode cX4_madeFrom 3 = .ok (.iconst 1, 1) := by decide +kernel
theorem dX4_madeFrom_4 : decode cX4_madeFrom 4 = .ok (.iadd, 1) := by decide +kernel
theorem dX4_madeFrom_5 : decode cX4_madeFrom 5 = .ok (.istore_n 3, 1) := by decide +kernel
theorem dX4_madeFrom_6 : decode cX4_madeFrom 6 = .ok (.iload_n 3, 1) := by decide +kernel
theorem dX4_madeFrom_7 : decode cX4_madeFrom 7 = .ok (.aload_n 0, 1) := by decide +kernel
theorem dX4_madeFrom_8 : decode cX4_madeFrom 8 = .ok (.getfield 36, 3) := by decide +kernel
theorem dX4_madeFrom_11 : decode cX4_madeFrom 11 = .ok (.if_icmp .ge 43, 3) := by decide +kernel
theorem dX4_madeFrom_14 : decode cX4_madeFrom 14 = .ok (.iload_n 1, 1) := by decide +kernel
theorem dX4_madeFrom_15 : decode cX4_madeFrom 15 = .ok (.iload_n 2, 1) := by decide +kernel
theorem dX4_madeFrom_16 : decode cX4_madeFrom 16 = .ok (.aload_n 0, 1) := by decide +kernel
theorem dX4_madeFrom_17 : decode cX4_madeFrom 17 = .ok (.iload_n 3, 1) := by decide +kernel
theorem dX4_madeFrom_18 : decode cX4_madeFrom 18 = .ok (.iconst 0, 1) := by decide +kernel
theorem dX4_madeFrom_19 : decode cX4_madeFrom 19 = .ok (.invokevirtual 53, 3) := by decide +kernel
theorem dX4_madeFrom_22 : decode cX4_madeFrom 22 = .ok (.invokestatic 56, 3) := by decide +kernel
theorem dX4_madeFrom_25 : decode cX4_madeFrom 25 = .ok (.ifCond .ne 17, 3) := by decide +kernel
theorem dX4_madeFrom_28 : decode cX4_madeFrom 28 = .ok (.iload_n 1, 1) := by decide +kernel
theorem dX4_madeFrom_29 : decode cX4_madeFrom 29 = .ok (.iload_n 2, 1) := by decide +kernel
theorem dX4_madeFrom_30 : decode cX4_madeFrom 30 = .ok (.aload_n 0, 1) := by decide +kernel
theorem dX4_madeFrom_31 : decode cX4_madeFrom 31 = .ok (.iload_n 3, 1) := by decide +kernel
theorem dX4_madeFrom_32 : decode cX4_madeFrom 32 = .ok (.iconst 1, 1) := by decide +kernel
theorem dX4_madeFrom_33 : decode cX4_madeFrom 33 = .ok (.invokevirtual 53, 3) := by decide +kernel
theorem dX4_madeFrom_36 : decode cX4_madeFrom 36 = .ok (.invokestatic 56, 3) := by decide +kernel
theorem dX4_madeFrom_39 : decode cX4_madeFrom 39 = .ok (.ifCond .eq 9, 3) := by decide +kernel
theorem dX4_madeFrom_42 : decode cX4_madeFrom 42 = .ok (.iload_n 2, 1) := by decide +kernel
theorem dX4_madeFrom_43 : decode cX4_madeFrom 43 = .ok (.iconst 1, 1) := by decide +kernel
theorem dX4_madeFrom_44 : decode cX4_madeFrom 44 = .ok (.iload_n 3, 1) := by decide +kernel
theorem dX4_madeFrom_45 : decode cX4_madeFrom 45 = .ok (.ishl, 1) := by decide +kernel
theorem dX4_madeFrom_46 : decode cX4_madeFrom 46 = .ok (.ior, 1) := by decide +kernel
theorem dX4_madeFrom_47 : decode cX4_madeFrom 47 = .ok (.istore_n 2, 1) := by decide +kernel
theorem dX4_madeFrom_48 : decode cX4_madeFrom 48 = .ok (.iinc 3 1, 3) := by decide +kernel
theorem dX4_madeFrom_51 : decode cX4_madeFrom 51 = .ok (.goto (-45), 3) := by decide +kernel
theorem dX4_madeFrom_54 : decode cX4_madeFrom 54 = .ok (.iload_n 2, 1) := by decide +kernel
theorem dX4_madeFrom_55 : decode cX4_madeFrom 55 = .ok (.ireturn, 1) := by decide +kernel
theorem dX4_isAmong_0 : decode cX4_isAmong 0 = .ok (.iload_n 2, 1) := by decide +kernel
theorem dX4_isAmong_1 : decode cX4_isAmong 1 = .ok (.iload_n 0, 1) := by decide +kernel
theorem dX4_isAmong_2 : decode cX4_isAmong 2 = .ok (.if_icmp .eq 16, 3) := by decide +kernel
theorem dX4_isAmong_5 : decode cX4_isAmong 5 = .ok (.iload_n 2, 1) := by decide +kernel
theorem dX4_isAmong_6 : decode cX4_isAmong 6 = .ok (.ifCond .lt 16, 3) := by decide +kernel
theorem dX4_isAmong_9 : decode cX4_isAmong 9 = .ok (.iload_n 1, 1) := by decide +kernel
theorem dX4_isAmong_10 : decode cX4_isAmong 10 = .ok (.iload_n 2, 1) := by decide +kernel
theorem dX4_isAmong_11 : decode cX4_isAmong 11 = .ok (.ishr, 1) := by decide +kernel
theorem dX4_isAmong_12 : decode cX4_isAmong 12 = .ok (.iconst 1, 1) := by decide +kernel
theorem dX4_isAmong_13 : decode cX4_isAmong 13 = .ok (.iand, 1) := by decide +kernel
theorem dX4_isAmong_14 : decode cX4_isAmong 14 = .ok (.iconst 1, 1) := by decide +kernel
theorem dX4_isAmong_15 : decode cX4_isAmong 15 = .ok (.if_icmp .ne 7, 3) := by decide +kernel
theorem dX4_isAmong_18 : decode cX4_isAmong 18 = .ok (.iconst 1, 1) := by decide +kernel
theorem dX4_isAmong_19 : decode cX4_isAmong 19 = .ok (.goto 4, 3) := by decide +kernel
theorem dX4_isAmong_22 : decode cX4_isAmong 22 = .ok (.iconst 0, 1) := by decide +kernel
theorem dX4_isAmong_23 : decode cX4_isAmong 23 = .ok (.ireturn, 1) := by decide +kernel
theorem dX5_init_0 : decode cX5_init 0 = .ok (.aload_n 0, 1) := by decide +kernel
theorem dX5_init_1 : decode cX5_init 1 = .ok (.invokespecial 3, 3) := by decide +kernel
theorem dX5_init_4 : decode cX5_init 4 = .ok (.aload_n 0, 1) := by decide +kernel
theorem dX5_init_5 : decode cX5_init 5 = .ok (.new 9, 3) := by decide +kernel
theorem dX5_init_8 : decode cX5_init 8 = .ok (.dup, 1) := by decide +kernel
theorem dX5_init_9 : decode cX5_init 9 = .ok (.invokespecial 11, 3) := by decide +kernel
theorem dX5_init_12 : decode cX5_init 12 = .ok (.putfield 12, 3) := by decide +kernel
theorem dX5_init_15 : decode cX5_init 15 = .ok (.aload_n 0, 1) := by decide +kernel
theorem dX5_init_16 : decode cX5_init 16 = .ok (.iconst (-1), 1) := by decide +kernel
theorem dX5_init_17 : decode cX5_init 17 = .ok (.putfield 18, 3) := by decide +kernel
theorem dX5_init_20 : decode cX5_init 20 = .ok (.return_, 1) := by decide +kernel
theorem dX5_read_0 : decode cX5_read 0 = .ok (.aload_n 0, 1) := by decide +kernel
theorem dX5_read_1 : decode cX5_read 1 = .ok (.iconst 0, 1) := by decide +kernel
theorem dX5_read_2 : decode cX5_read 2 = .ok (.putfield 22, 3) := by decide +kernel
theorem dX5_read_5 : decode cX5_read 5 = .ok (.aload_n 0, 1) := by decide +kernel
theorem dX5_read_6 : decode cX5_read 6 = .ok (.iconst (-1), 1) := by decide +kernel
theorem dX5_read_7 : decode cX5_read 7 = .ok (.putfield 18, 3) := by decide +kernel
theorem dX5_read_10 : decode cX5_read 10 = .ok (.aload_n 3, 1) := by decide +kernel
theorem dX5_read_11 : decode cX5_read 11 = .ok (.invokevirtual 25, 3) := by decide +kernel
theorem dX5_read_14 : decode cX5_read 14 = .ok (.aload_n 0, 1) := by decide +kernel
theorem dX5_read_15 : decode cX5_read 15 = .ok (.getfield 12, 3) := by decide +kernel
theorem dX5_read_18 : decode cX5_read 18 = .ok (.aload_n 1, 1) := by decide +kernel
theorem dX5_read_19 : decode cX5_read 19 = .ok (.iload_n 2, 1) := by decide +kernel
theorem dX5_read_20 : decode cX5_read 20 = .ok (.invokevirtual 30, 3) := by decide +kernel
theorem dX5_read_23 : decode cX5_read 23 = .ok (.iconst 0, 1) := by decide +kernel
theorem dX5_read_24 : decode cX5_read 24 = .ok (.istore 4, 2) := by decide +kernel
theorem dX5_read_26 : decode cX5_read 26 = .ok (.iload 4, 2) := by decide +kernel
theorem dX5_read_28 : decode cX5_read 28 = .ok (.bipush 40, 2) := by decide +kernel
theorem dX5_read_30 : decode cX5_read 30 = .ok (.if_icmp .gt 31, 3) := by decide +kernel
theorem dX5_read_33 : decode cX5_read 33 = .ok (.aload_n 0, 1) := by decide +kernel
theorem dX5_read_34 : decode cX5_read 34 = .ok (.getfield 12, 3) := by decide +kernel
theorem dX5_read_37 : decode cX5_read 37 = .ok (.getfield 34, 3) := by decide +kernel
theorem dX5_read_40 : decode cX5_read 40 = .ok (.ifCond .eq 21, 3) := by decide +kernel
theorem dX5_read_43 : decode cX5_read 43 = .ok (.aload_n 0, 1) := by decide +kernel
theorem dX5_read_44 : decode cX5_read 44 = .ok (.aload_n 3, 1) := by decide +kernel
theorem dX5_read_45 : decode cX5_read 45 = .ok (.iload 4, 2) := by decide +kernel
theorem dX5_read_47 : decode cX5_read 47 = .ok (.invokevirtual 37, 3) := by decide +kernel
theorem dX5_read_50 : decode cX5_read 50 = .ok (.ifCond .ne 5, 3) := by decide +kernel
theorem dX5_read_53 : decode cX5_read 53 = .ok (.iconst 0, 1) := by decide +kernel
theorem dX5_read_54 : decode cX5_read 54 = .ok (.ireturn, 1) := by decide +kernel
theorem dX5_read_55 : decode cX5_read 55 = .ok (.iinc 4 1, 3) := by decide +kernel
theorem dX5_read_58 : decode cX5_read 58 = .ok (.goto (-32), 3) := by decide +kernel
theorem dX5_read_61 : decode cX5_read 61 = .ok (.aload_n 3, 1) := by decide +kernel
theorem dX5_read_62 : decode cX5_read 62 = .ok (.getfield 41, 3) := by decide +kernel
theorem dX5_read_65 : decode cX5_read 65 = .ok (.ifCond .le 17, 3) := by decide +kernel
theorem dX5_read_68 : decode cX5_read 68 = .ok (.aload_n 3, 1) := by decide +kernel
theorem dX5_read_69 : decode cX5_read 69 = .ok (.getfield 44, 3) := by decide +kernel
theorem dX5_read_72 : decode cX5_read 72 = .ok (.getfield 48, 3) := by decide +kernel
theorem dX5_read_75 : decode cX5_read 75 = .ok (.ifCond .le 7, 3) := by decide +kernel
theorem dX5_read_78 : decode cX5_read 78 = .ok (.iconst 1, 1) := by decide +kernel
theorem dX5_read_79 : decode cX5_read 79 = .ok (.goto 4, 3) := by decide +kernel
theorem dX5_read_82 : decode cX5_read 82 = .ok (.iconst 0, 1) := by decide +kernel
theorem dX5_read_83 : decode cX5_read 83 = .ok (.istore 4, 2) := by decide +kernel
theorem dX5_read_85 : decode cX5_read 85 = .ok (.iload 4, 2) := by decide +kernel
theorem dX5_read_87 : decode cX5_read 87 = .ok (.ifCond .ne 12, 3) := by decide +kernel
theorem dX5_read_90 : decode cX5_read 90 = .ok (.aload_n 0, 1) := by decide +kernel
theorem dX5_read_91 : decode cX5_read 91 = .ok (.iconst 4, 1) := by decide +kernel
theorem dX5_read_92 : decode cX5_read 92 = .ok (.iload_n 2, 1) := by decide +kernel
theorem dX5_read_93 : decode cX5_read 93 = .ok (.invokevirtual 53, 3) := by decide +kernel
theorem dX5_read_96 : decode cX5_read 96 = .ok (.ifCond .eq 7, 3) := by decide +kernel
theorem dX5_read_99 : decode cX5_read 99 = .ok (.iconst 1, 1) := by decide +kernel
theorem dX5_read_100 : decode cX5_read 100 = .ok (.goto 4, 3) := by decide +kernel
theorem dX5_read_103 : decode cX5_read 103 = .ok (.iconst 0, 1) := by decide +kernel
theorem dX5_read_104 : decode cX5_read 104 = .ok (.ireturn, 1) := by decide +kernel
theorem dX5_stopAt_0 : decode cX5_stopAt 0 = .ok (.aload_n 0, 1) := by decide +kernel
theorem dX5_stopAt_1 : decode cX5_stopAt 1 = .ok (.iload_n 1, 1) := by decide +kernel
theorem dX5_stopAt_2 : decode cX5_stopAt 2 = .ok (.putfield 22, 3) := by decide +kernel
theorem dX5_stopAt_5 : decode cX5_stopAt 5 = .ok (.aload_n 0, 1) := by decide +kernel
theorem dX5_stopAt_6 : decode cX5_stopAt 6 = .ok (.iload_n 2, 1) := by decide +kernel
theorem dX5_stopAt_7 : decode cX5_stopAt 7 = .ok (.putfield 18, 3) := by decide +kernel
theorem dX5_stopAt_10 : decode cX5_stopAt 10 = .ok (.iconst 0, 1) := by decide +kernel
theorem dX5_stopAt_11 : decode cX5_stopAt 11 = .ok (.ireturn, 1) := by decide +kernel
theorem dX5_readStatement_0 : decode cX5_readStatement 0 = .ok (.aload_n 0, 1) := by decide +kernel
theorem dX5_readStatement_1 : decode cX5_readStatement 1 = .ok (.getfield 12, 3) := by decide +kernel
theorem dX5_readStatement_4 : decode cX5_readStatement 4 = .ok (.getfield 57, 3) := by decide +kernel
theorem dX5_readStatement_7 : decode cX5_readStatement 7 = .ok (.istore_n 3, 1) := by decide +kernel
theorem dX5_readStatement_8 : decode cX5_readStatement 8 = .ok (.iload_n 3, 1) := by decide +kernel
theorem dX5_readStatement_9 : decode cX5_readStatement 9 = .ok (.invokestatic 60, 3) := by decide +kernel
theorem dX5_readStatement_12 : decode cX5_readStatement 12 = .ok (.ifCond .ne 16, 3) := by decide +kernel
theorem dX5_readStatement_15 : decode cX5_readStatement 15 = .ok (.aload_n 0, 1) := by decide +kernel
theorem dX5_readStatement_16 : decode cX5_readStatement 16 = .ok (.iconst 1, 1) := by decide +kernel
theorem dX5_readStatement_17 : decode cX5_readStatement 17 = .ok (.aload_n 0, 1) := by decide +kernel
theorem dX5_readStatement_18 : decode cX5_readStatement 18 = .ok (.getfield 12, 3) := by decide +kernel
theorem dX5_readStatement_21 : decode cX5_readStatement 21 = .ok (.getfield 64, 3) := by decide +kernel
theorem dX5_readStatement_24 : decode cX5_readStatement 24 = .ok (.invokevirtual 53, 3) := by decide +kernel
theorem dX5_readStatement_27 : decode cX5_readStatement 27 = .ok (.ireturn, 1) := by decide +kernel
theorem dX5_readStatement_28 : decode cX5_readStatement 28 = .ok (.iload_n 2, 1) := by decide +kernel
theorem dX5_readStatement_29 : decode cX5_readStatement 29 = .ok (.bipush 40, 2) := by decide +kernel
theorem dX5_readStatement_31 : decode cX5_readStatement 31 = .ok (.if_icmp .ge 11, 3) := by decide +kernel
theorem dX5_readStatement_34 : decode cX5_readStatement 34 = .ok (.aload_n 1, 1) := by decide +kernel
theorem dX5_readStatement_35 : decode cX5_readStatement 35 = .ok (.iload_n 3, 1) := by decide +kernel
theorem dX5_readStatement_36 : decode cX5_readStatement 36 = .ok (.invokestatic 67, 3) := by decide +kernel
theorem dX5_readStatement_39 : decode cX5_readStatement 39 = .ok (.ifCond .eq 16, 3) := by decide +kernel
theorem dX5_readStatement_42 : decode cX5_readStatement 42 = .ok (.aload_n 0, 1) := by decide +kernel
theorem dX5_readStatement_43 : decode cX5_readStatement 43 = .ok (.iconst 4, 1) := by decide +kernel
theorem dX5_readStatement_44 : decode cX5_readStatement 44 = .ok (.aload_n 0, 1) := by decide +kernel
theorem dX5_readStatement_45 : decode cX5_readStatement 45 = .ok (.getfield 12, 3) := by decide +kernel
theorem dX5_readStatement_48 : decode cX5_readStatement 48 = .ok (.getfield 64, 3) := by decide +kernel
theorem dX5_readStatement_51 : decode cX5_readStatement 51 = .ok (.invokevirtual 53, 3) := by decide +kernel
theorem dX5_readStatement_54 : decode cX5_readStatement 54 = .ok (.ireturn, 1) := by decide +kernel
theorem dX5_readStatement_55 : decode cX5_readStatement 55 = .ok (.aload_n 0, 1) := by decide +kernel
theorem dX5_readStatement_56 : decode cX5_readStatement 56 = .ok (.getfield 12, 3) := by decide +kernel
theorem dX5_readStatement_59 : decode cX5_readStatement 59 = .ok (.invokevirtual 70, 3) := by decide +kernel
theorem dX5_readStatement_62 : decode cX5_readStatement 62 = .ok (.iload_n 3, 1) := by decide +kernel
theorem dX5_readStatement_63 : decode cX5_readStatement 63 = .ok (.tableswitch 117 0 10 #[57, 117, 117, 117, 67, 77, 87, 117, 117, 97, 107], 57) := by decide +kernel
theorem dX5_readStatement_120 : decode cX5_readStatement 120 = .ok (.aload_n 0, 1) := by decide +kernel
theorem dX5_readStatement_121 : decode cX5_readStatement 121 = .ok (.aload_n 1, 1) := by decide +kernel
theorem dX5_readStatement_122 : decode cX5_readStatement 122 = .ok (.invokevirtual 73, 3) := by decide +kernel
theorem dX5_readStatement_125 : decode cX5_readStatement 125 = .ok (.istore 4, 2) := by decide +kernel
theorem dX5_readStatement_127 : decode cX5_readStatement 127 = .ok (.goto 60, 3) := by decide +kernel
theorem dX5_readStatement_130 : decode cX5_readStatement 130 = .ok (.aload_n 0, 1) := by decide +kernel
theorem dX5_readStatement_131 : decode cX5_readStatement 131 = .ok (.aload_n 1, 1) := by decide +kernel
theorem dX5_readStatement_132 : decode cX5_readStatement 132 = .ok (.invokevirtual 77, 3) := by decide +kernel
theorem dX5_readStatement_135 : decode cX5_readStatement 135 = .ok (.istore 4, 2) := by decide +kernel
theorem dX5_readStatement_137 : decode cX5_readStatement 137 = .ok (.goto 50, 3) := by decide +kernel
theorem dX5_readStatement_140 : decode cX5_readStatement 140 = .ok (.aload_n 0, 1) := by decide +kernel
theorem dX5_readStatement_141 : decode cX5_readStatement 141 = .ok (.aload_n 1, 1) := by decide +kernel
theorem dX5_readStatement_142 : decode cX5_readStatement 142 = .ok (.invokevirtual 80, 3) := by decide +kernel
theorem dX5_readStatement_145 : decode cX5_readStatement 145 = .ok (.istore 4, 2) := by decide +kernel
theorem dX5_readStatement_147 : decode cX5_readStatement 147 = .ok (.goto 40, 3) := by decide +kernel
theorem dX5_readStatement_150 : decode cX5_readStatement 150 = .ok (.aload_n 0, 1) := by decide +kernel
theorem dX5_readStatement_151 : decode cX5_readStatement 151 = .ok (.aload_n 1, 1) := by decide +kernel
theorem dX5_readStatement_152 : decode cX5_readStatement 152 = .ok (.invokevirtual 83, 3) := by decide +kernel
theorem dX5_readStatement_155 : decode cX5_readStatement 155 = .ok (.istore 4, 2) := by decide +kernel
theorem dX5_readStatement_157 : decode cX5_readStatement 157 = .ok (.goto 30, 3) := by decide +kernel
theorem dX5_readStatement_160 : decode cX5_readStatement 160 = .ok (.aload_n 0, 1) := by decide +kernel
theorem dX5_readStatement_161 : decode cX5_readStatement 161 = .ok (.aload_n 1, 1) := by decide +kernel
theorem dX5_readStatement_162 : decode cX5_readStatement 162 = .ok (.invokevirtual 86, 3) := by decide +kernel
theorem dX5_readStatement_165 : decode cX5_readStatement 165 = .ok (.istore 4, 2) := by decide +kernel
theorem dX5_readStatement_167 : decode cX5_readStatement 167 = .ok (.goto 20, 3) := by decide +kernel
theorem dX5_readStatement_170 : decode cX5_readStatement 170 = .ok (.aload_n 0, 1) := by decide +kernel
theorem dX5_readStatement_171 : decode cX5_readStatement 171 = .ok (.aload_n 1, 1) := by decide +kernel
theorem dX5_readStatement_172 : decode cX5_readStatement 172 = .ok (.invokevirtual 89, 3) := by decide +kernel
theorem dX5_readStatement_175 : decode cX5_readStatement 175 = .ok (.istore 4, 2) := by decide +kernel
theorem dX5_readStatement_177 : decode cX5_readStatement 177 = .ok (.goto 10, 3) := by decide +kernel
theorem dX5_readStatement_180 : decode cX5_readStatement 180 = .ok (.aload_n 0, 1) := by decide +kernel
theorem dX5_readStatement_181 : decode cX5_readStatement 181 = .ok (.aload_n 1, 1) := by decide +kernel
theorem dX5_readStatement_182 : decode cX5_readStatement 182 = .ok (.invokevirtual 92, 3) := by decide +kernel
theorem dX5_readStatement_185 : decode cX5_readStatement 185 = .ok (.istore 4, 2) := by decide +kernel
theorem dX5_readStatement_187 : decode cX5_readStatement 187 = .ok (.iload 4, 2) := by decide +kernel
theorem dX5_readStatement_189 : decode cX5_readStatement 189 = .ok (.ifCond .eq 16, 3) := by decide +kernel
theorem dX5_readStatement_192 : decode cX5_readStatement 192 = .ok (.aload_n 0, 1) := by decide +kernel
theorem dX5_readStatement_193 : decode cX5_readStatement 193 = .ok (.bipush 59, 2) := by decide +kernel
theorem dX5_readStatement_195 : decode cX5_readStatement 195 = .ok (.invokevirtual 95, 3) := by decide +kernel
theorem dX5_readStatement_198 : decode cX5_readStatement 198 = .ok (.ifCond .eq 7, 3) := by decide +kernel
theorem dX5_readStatement_201 : decode cX5_readStatement 201 = .ok (.iconst 1, 1) := by decide +kernel
theorem dX5_readStatement_202 : decode cX5_readStatement 202 = .ok (.goto 4, 3) := by decide +kernel
theorem dX5_readStatement_205 : decode cX5_readStatement 205 = .ok (.iconst 0, 1) := by decide +kernel
theorem dX5_readStatement_206 : decode cX5_readStatement 206 = .ok (.ireturn, 1) := by decide +kernel
theorem dX5_startsStatement_0 : decode cX5_startsStatement 0 = .ok (.iload_n 0, 1) := by decide +kernel
theorem dX5_startsStatement_1 : decode cX5_startsStatement 1 = .ok (.tableswitch 65 0 11 #[63, 65, 65, 65, 63, 63, 63, 65, 65, 63, 63, 63], 63) := by decide +kernel
theorem dX5_startsStatement_64 : decode cX5_startsStatement 64 = .ok (.iconst 1, 1) := by decide +kernel
theorem dX5_startsStatement_65 : decode cX5_startsStatement 65 = .ok (.ireturn, 1) := by decide +kernel
theorem dX5_startsStatement_66 : decode cX5_startsStatement 66 = .ok (.iconst 0, 1) := by decide +kernel
theorem dX5_startsStatement_67 : decode cX5_startsStatement 67 = .ok (.ireturn, 1) := by decide +kernel
theorem dX5_isFull_0 : decode cX5_isFull 0 = .ok (.iload_n 1, 1) := by decide +kernel
theorem dX5_isFull_1 : decode cX5_isFull 1 = .ok (.ifCond .ne 17, 3) := by decide +kernel
theorem dX5_isFull_4 : decode cX5_isFull 4 = .ok (.aload_n 0, 1) := by decide +kernel
theorem dX5_isFull_5 : decode cX5_isFull 5 = .ok (.getfield 41, 3) := by decide +kernel
theorem dX5_isFull_8 : decode cX5_isFull 8 = .ok (.iconst 4, 1) := by decide +kernel
theorem dX5_isFull_9 : decode cX5_isFull 9 = .ok (.if_icmp .lt 7, 3) := by decide +kernel
theorem dX5_isFull_12 : decode cX5_isFull 12 = .ok (.iconst 1, 1) := by decide +kernel
theorem dX5_isFull_13 : decode cX5_isFull 13 = .ok (.goto 4, 3) := by decide +kernel
theorem dX5_isFull_16 : decode cX5_isFull 16 = .ok (.iconst 0, 1) := by decide +kernel
theorem dX5_isFull_17 : decode cX5_isFull 17 = .ok (.ireturn, 1) := by decide +kernel
theorem dX5_isFull_18 : decode cX5_isFull 18 = .ok (.iload_n 1, 1) := by decide +kernel
theorem dX5_isFull_19 : decode cX5_isFull 19 = .ok (.iconst 5, 1) := by decide +kernel
theorem dX5_isFull_20 : decode cX5_isFull 20 = .ok (.if_icmp .eq 9, 3) := by decide +kernel
theorem dX5_isFull_23 : decode cX5_isFull 23 = .ok (.iload_n 1, 1) := by decide +kernel
theorem dX5_isFull_24 : decode cX5_isFull 24 = .ok (.bipush 6, 2) := by decide +kernel
theorem dX5_isFull_26 : decode cX5_isFull 26 = .ok (.if_icmp .ne 7, 3) := by decide +kernel
theorem dX5_isFull_29 : decode cX5_isFull 29 = .ok (.iconst 1, 1) := by decide +kernel
theorem dX5_isFull_30 : decode cX5_isFull 30 = .ok (.goto 4, 3) := by decide +kernel
theorem dX5_isFull_33 : decode cX5_isFull 33 = .ok (.iconst 0, 1) := by decide +kernel
theorem dX5_isFull_34 : decode cX5_isFull 34 = .ok (.istore_n 2, 1) := by decide +kernel
theorem dX5_isFull_35 : decode cX5_isFull 35 = .ok (.iload_n 2, 1) := by decide +kernel
theorem dX5_isFull_36 : decode cX5_isFull 36 = .ok (.ifCond .eq 19, 3) := by decide +kernel
theorem dX5_isFull_39 : decode cX5_isFull 39 = .ok (.aload_n 0, 1) := by decide +kernel
theorem dX5_isFull_40 : decode cX5_isFull 40 = .ok (.getfield 44, 3) := by decide +kernel
theorem dX5_isFull_43 : decode cX5_isFull 43 = .ok (.getfield 48, 3) := by decide +kernel
theorem dX5_isFull_46 : decode cX5_isFull 46 = .ok (.bipush 14, 2) := by decide +kernel
theorem dX5_isFull_48 : decode cX5_isFull 48 = .ok (.if_icmp .lt 7, 3) := by decide +kernel
theorem dX5_isFull_51 : decode cX5_isFull 51 = .ok (.iconst 1, 1) := by decide +kernel
theorem dX5_isFull_52 : decode cX5_isFull 52 = .ok (.goto 4, 3) := by decide +kernel
theorem dX5_isFull_55 : decode cX5_isFull 55 = .ok (.iconst 0, 1) := by decide +kernel
theorem dX5_isFull_56 : decode cX5_isFull 56 = .ok (.ireturn, 1) := by decide +kernel
theorem dX5_readFormat_0 : decode cX5_readFormat 0 = .ok (.aload_n 0, 1) := by decide +kernel
theorem dX5_readFormat_1 : decode cX5_readFormat 1 = .ok (.aload_n 1, 1) := by decide +kernel
theorem dX5_readFormat_2 : decode cX5_readFormat 2 = .ok (.invokevirtual 99, 3) := by decide +kernel
theorem dX5_readFormat_5 : decode cX5_readFormat 5 = .ok (.ifCond .ne 5, 3) := by decide +kernel
theorem dX5_readFormat_8 : decode cX5_readFormat 8 = .ok (.iconst 0, 1) := by decide +kernel
theorem dX5_readFormat_9 : decode cX5_readFormat 9 = .ok (.ireturn, 1) := by decide +kernel
theorem dX5_readFormat_10 : decode cX5_readFormat 10 = .ok (.aload_n 0, 1) := by decide +kernel
theorem dX5_readFormat_11 : decode cX5_readFormat 11 = .ok (.getfield 102, 3) := by decide +kernel
theorem dX5_readFormat_14 : decode cX5_readFormat 14 = .ok (.istore_n 2, 1) := by decide +kernel
theorem dX5_readFormat_15 : decode cX5_readFormat 15 = .ok (.aload_n 0, 1) := by decide +kernel
theorem dX5_readFormat_16 : decode cX5_readFormat 16 = .ok (.iconst 1, 1) := by decide +kernel
theorem dX5_readFormat_17 : decode cX5_readFormat 17 = .ok (.invokevirtual 105, 3) := by decide +kernel
theorem dX5_readFormat_20 : decode cX5_readFormat 20 = .ok (.ifCond .eq 14, 3) := by decide +kernel
theorem dX5_readFormat_23 : decode cX5_readFormat 23 = .ok (.aload_n 0, 1) := by decide +kernel
theorem dX5_readFormat_24 : decode cX5_readFormat 24 = .ok (.iconst 0, 1) := by decide +kernel
theorem dX5_readFormat_25 : decode cX5_readFormat 25 = .ok (.iconst 1, 1) := by decide +kernel
theorem dX5_readFormat_26 : decode cX5_readFormat 26 = .ok (.ldc 108, 2) := by decide +kernel
theorem dX5_readFormat_28 : decode cX5_readFormat 28 = .ok (.invokevirtual 109, 3) := by decide +kernel
theorem dX5_readFormat_31 : decode cX5_readFormat 31 = .ok (.ifCond .ne 5, 3) := by decide +kernel
theorem dX5_readFormat_34 : decode cX5_readFormat 34 = .ok (.iconst 0, 1) := by decide +kernel
theorem dX5_readFormat_35 : decode cX5_readFormat 35 = .ok (.ireturn, 1) := by decide +kernel
theorem dX5_readFormat_36 : decode cX5_readFormat 36 = .ok (.aload_n 0, 1) := by decide +kernel
theorem dX5_readFormat_37 : decode cX5_readFormat 37 = .ok (.getfield 102, 3) := by decide +kernel
theorem dX5_readFormat_40 : decode cX5_readFormat 40 = .ok (.istore_n 3, 1) := by decide +kernel
theorem dX5_readFormat_41 : decode cX5_readFormat 41 = .ok (.aload_n 0, 1) := by decide +kernel
theorem dX5_readFormat_42 : decode cX5_readFormat 42 = .ok (.iconst 2, 1) := by decide +kernel
theorem dX5_readFormat_43 : decode cX5_readFormat 43 = .ok (.invokevirtual 105, 3) := by decide +kernel
theorem dX5_readFormat_46 : decode cX5_readFormat 46 = .ok (.ifCond .eq 14, 3) := by decide +kernel
theorem dX5_readFormat_49 : decode cX5_readFormat 49 = .ok (.aload_n 0, 1) := by decide +kernel
theorem dX5_readFormat_50 : decode cX5_readFormat 50 = .ok (.iconst 0, 1) := by decide +kernel
theorem dX5_readFormat_51 : decode cX5_readFormat 51 = .ok (.iconst 1, 1) := by decide +kernel
theorem dX5_readFormat_52 : decode cX5_readFormat 52 = .ok (.ldc 113, 2) := by decide +kernel
theorem dX5_readFormat_54 : decode cX5_readFormat 54 = .ok (.invokevirtual 109, 3) := by decide +kernel
theorem dX5_readFormat_57 : decode cX5_readFormat 57 = .ok (.ifCond .ne 5, 3) := by decide +kernel
theorem dX5_readFormat_60 : decode cX5_readFormat 60 = .ok (.iconst 0, 1) := by decide +kernel
theorem dX5_readFormat_61 : decode cX5_readFormat 61 = .ok (.ireturn, 1) := by decide +kernel
theorem dX5_readFormat_62 : decode cX5_readFormat 62 = .ok (.aload_n 0, 1) := by decide +kernel
theorem dX5_readFormat_63 : decode cX5_readFormat 63 = .ok (.getfield 102, 3) := by decide +kernel
theorem dX5_readFormat_66 : decode cX5_readFormat 66 = .ok (.istore 4, 2) := by decide +kernel
theorem dX5_readFormat_68 : decode cX5_readFormat 68 = .ok (.aload_n 0, 1) := by decide +kernel
theorem dX5_readFormat_69 : decode cX5_readFormat 69 = .ok (.iconst 3, 1) := by decide +kernel
theorem dX5_readFormat_70 : decode cX5_readFormat 70 = .ok (.invokevirtual 105, 3) := by decide +kernel
theorem dX5_readFormat_73 : decode cX5_readFormat 73 = .ok (.ifCond .eq 15, 3) := by decide +kernel
theorem dX5_readFormat_76 : decode cX5_readFormat 76 = .ok (.aload_n 0, 1) := by decide +kernel
theorem dX5_readFormat_77 : decode cX5_readFormat 77 = .ok (.iconst 0, 1) := by decide +kernel
theorem dX5_readFormat_78 : decode cX5_readFormat 78 = .ok (.iconst 0, 1) := by decide +kernel
theorem dX5_readFormat_79 : decode cX5_readFormat 79 = .ok (.sipush 999, 3) := by decide +kernel
theorem dX5_readFormat_82 : decode cX5_readFormat 82 = .ok (.invokevirtual 109, 3) := by decide +kernel
theorem dX5_readFormat_85 : decode cX5_readFormat 85 = .ok (.ifCond .ne 5, 3) := by decide +kernel
theorem dX5_readFormat_88 : decode cX5_readFormat 88 = .ok (.iconst 0, 1) := by decide +kernel
theorem dX5_readFormat_89 : decode cX5_readFormat 89 = .ok (.ireturn, 1) := by decide +kernel
theorem dX5_readFormat_90 : decode cX5_readFormat 90 = .ok (.aload_n 1, 1) := by decide +kernel
theorem dX5_readFormat_91 : decode cX5_readFormat 91 = .ok (.iload_n 2, 1) := by decide +kernel
theorem dX5_readFormat_92 : decode cX5_readFormat 92 = .ok (.iload_n 3, 1) := by decide +kernel
theorem dX5_readFormat_93 : decode cX5_readFormat 93 = .ok (.iload 4, 2) := by decide +kernel
theorem dX5_readFormat_95 : decode cX5_readFormat 95 = .ok (.aload_n 0, 1) := by decide +kernel
theorem dX5_readFormat_96 : decode cX5_readFormat 96 = .ok (.getfield 102, 3) := by decide +kernel
theorem dX5_readFormat_99 : decode cX5_readFormat 99 = .ok (.invokevirtual 114, 3) := by decide +kernel
theorem dX5_readFormat_102 : decode cX5_readFormat 102 = .ok (.iconst 1, 1) := by decide +kernel
theorem dX5_readFormat_103 : decode cX5_readFormat 103 = .ok (.ireturn, 1) := by decide +kernel
theorem dX5_readCast_0 : decode cX5_readCast 0 = .ok (.aload_n 0, 1) := by decide +kernel
theorem dX5_readCast_1 : decode cX5_readCast 1 = .ok (.iconst 0, 1) := by decide +kernel
theorem dX5_readCast_2 : decode cX5_readCast 2 = .ok (.iconst 0, 1) := by decide +kernel
theorem dX5_readCast_3 : decode cX5_readCast 3 = .ok (.sipush 999, 3) := by decide +kernel
theorem dX5_readCast_6 : decode cX5_readCast 6 = .ok (.invokevirtual 109, 3) := by decide +kernel
theorem dX5_readCast_9 : decode cX5_readCast 9 = .ok (.ifCond .ne 5, 3) := by decide +kernel
theorem dX5_readCast_12 : decode cX5_readCast 12 = .ok (.iconst 0, 1) := by decide +kernel
theorem dX5_readCast_13 : decode cX5_readCast 13 = .ok (.ireturn, 1) := by decide +kernel
theorem dX5_readCast_14 : decode cX5_readCast 14 = .ok (.aload_n 1, 1) := by decide +kernel
theorem dX5_readCast_15 : decode cX5_readCast 15 = .ok (.aload_n 0, 1) := by decide +kernel
theorem dX5_readCast_16 : decode cX5_readCast 16 = .ok (.getfield 102, 3) := by decide +kernel
theorem dX5_readCast_19 : decode cX5_readCast 19 = .ok (.putfield 118, 3) := by decide +kernel
theorem dX5_readCast_22 : decode cX5_readCast 22 = .ok (.iconst 1, 1) := by decide +kernel
theorem dX5_readCast_23 : decode cX5_readCast 23 = .ok (.ireturn, 1) := by decide +kernel
theorem dX5_readBox_0 : decode cX5_readBox 0 = .ok (.aload_n 0, 1) := by decide +kernel
theorem dX5_readBox_1 : decode cX5_readBox 1 = .ok (.aload_n 1, 1) := by decide +kernel
theorem dX5_readBox_2 : decode cX5_readBox 2 = .ok (.invokevirtual 99, 3) := by decide +kernel
theorem dX5_readBox_5 : decode cX5_readBox 5 = .ok (.ifCond .ne 5, 3) := by decide +kernel
theorem dX5_readBox_8 : decode cX5_readBox 8 = .ok (.iconst 0, 1) := by decide +kernel
theorem dX5_readBox_9 : decode cX5_readBox 9 = .ok (.ireturn, 1) := by decide +kernel
theorem dX5_readBox_10 : decode cX5_readBox 10 = .ok (.aload_n 0, 1) := by decide +kernel
theorem dX5_readBox_11 : decode cX5_readBox 11 = .ok (.getfield 102, 3) := by decide +kernel
theorem dX5_readBox_14 : decode cX5_readBox 14 = .ok (.istore_n 2, 1) := by decide +kernel
theorem dX5_readBox_15 : decode cX5_readBox 15 = .ok (.aload_n 0, 1) := by decide +kernel
theorem dX5_readBox_16 : decode cX5_readBox 16 = .ok (.iconst 1, 1) := by decide +kernel
theorem dX5_readBox_17 : decode cX5_readBox 17 = .ok (.ldc 121, 2) := by decide +kernel
theorem dX5_readBox_19 : decode cX5_readBox 19 = .ok (.ldc 122, 2) := by decide +kernel
theorem dX5_readBox_21 : decode cX5_readBox 21 = .ok (.invokevirtual 109, 3) := by decide +kernel
theorem dX5_readBox_24 : decode cX5_readBox 24 = .ok (.ifCond .ne 5, 3) := by decide +kernel
theorem dX5_readBox_27 : decode cX5_readBox 27 = .ok (.iconst 0, 1) := by decide +kernel
theorem dX5_readBox_28 : decode cX5_readBox 28 = .ok (.ireturn, 1) := by decide +kernel
theorem dX5_readBox_29 : decode cX5_readBox 29 = .ok (.aload_n 0, 1) := by decide +kernel
theorem dX5_readBox_30 : decode cX5_readBox 30 = .ok (.getfield 102, 3) := by decide +kernel
theorem dX5_readBox_33 : decode cX5_readBox 33 = .ok (.istore_n 3, 1) := by decide +kernel
theorem dX5_readBox_34 : decode cX5_readBox 34 = .ok (.aload_n 0, 1) := by decide +kernel
theorem dX5_readBox_35 : decode cX5_readBox 35 = .ok (.iconst 1, 1) := by decide +kernel
theorem dX5_readBox_36 : decode cX5_readBox 36 = .ok (.iload_n 3, 1) := by decide +kernel
theorem dX5_readBox_37 : decode cX5_readBox 37 = .ok (.ldc 122, 2) := by decide +kernel
theorem dX5_readBox_39 : decode cX5_readBox 39 = .ok (.invokevirtual 109, 3) := by decide +kernel
theorem dX5_readBox_42 : decode cX5_readBox 42 = .ok (.ifCond .ne 5, 3) := by decide +kernel
theorem dX5_readBox_45 : decode cX5_readBox 45 = .ok (.iconst 0, 1) := by decide +kernel
theorem dX5_readBox_46 : decode cX5_readBox 46 = .ok (.ireturn, 1) := by decide +kernel
theorem dX5_readBox_47 : decode cX5_readBox 47 = .ok (.aload_n 1, 1) := by decide +kernel
theorem dX5_readBox_48 : decode cX5_readBox 48 = .ok (.getfield 44, 3) := by decide +kernel
theorem dX5_readBox_51 : decode cX5_readBox 51 = .ok (.iconst 0, 1) := by decide +kernel
theorem dX5_readBox_52 : decode cX5_readBox 52 = .ok (.iconst (-1), 1) := by decide +kernel
theorem dX5_readBox_53 : decode cX5_readBox 53 = .ok (.iload_n 3, 1) := by decide +kernel
theorem dX5_readBox_54 : decode cX5_readBox 54 = .ok (.invokevirtual 123, 3) := by decide +kernel
theorem dX5_readBox_57 : decode cX5_readBox 57 = .ok (.aload_n 1, 1) := by decide +kernel
theorem dX5_readBox_58 : decode cX5_readBox 58 = .ok (.getfield 44, 3) := by decide +kernel
theorem dX5_readBox_61 : decode cX5_readBox 61 = .ok (.iconst 1, 1) := by decide +kernel
theorem dX5_readBox_62 : decode cX5_readBox 62 = .ok (.iconst (-1), 1) := by decide +kernel
theorem dX5_readBox_63 : decode cX5_readBox 63 = .ok (.aload_n 0, 1) := by decide +kernel
theorem dX5_readBox_64 : decode cX5_readBox 64 = .ok (.getfield 102, 3) := by decide +kernel
theorem dX5_readBox_67 : decode cX5_readBox 67 = .ok (.invokevirtual 123, 3) := by decide +kernel
theorem dX5_readBox_70 : decode cX5_readBox 70 = .ok (.aload_n 1, 1) := by decide +kernel
theorem dX5_readBox_71 : decode cX5_readBox 71 = .ok (.getfield 44, 3) := by decide +kernel
theorem dX5_readBox_74 : decode cX5_readBox 74 = .ok (.iload_n 2, 1) := by decide +kernel
theorem dX5_readBox_75 : decode cX5_readBox 75 = .ok (.iconst 0, 1) := by decide +kernel
theorem dX5_readBox_76 : decode cX5_readBox 76 = .ok (.invokevirtual 127, 3) := by decide +kernel
theorem dX5_readBox_79 : decode cX5_readBox 79 = .ok (.iconst 1, 1) := by decide +kernel
theorem dX5_readBox_80 : decode cX5_readBox 80 = .ok (.ireturn, 1) := by decide +kernel
theorem dX5_readLet_0 : decode cX5_readLet 0 = .ok (.aload_n 0, 1) := by decide +kernel
theorem dX5_readLet_1 : decode cX5_readLet 1 = .ok (.aload_n 1, 1) := by decide +kernel
theorem dX5_readLet_2 : decode cX5_readLet 2 = .ok (.invokevirtual 99, 3) := by decide +kernel
theorem dX5_readLet_5 : decode cX5_readLet 5 = .ok (.ifCond .ne 5, 3) := by decide +kernel
theorem dX5_readLet_8 : decode cX5_readLet 8 = .ok (.iconst 0, 1) := by decide +kernel
theorem dX5_readLet_9 : decode cX5_readLet 9 = .ok (.ireturn, 1) := by decide +kernel
theorem dX5_readLet_10 : decode cX5_readLet 10 = .ok (.aload_n 0, 1) := by decide +kernel
theorem dX5_readLet_11 : decode cX5_readLet 11 = .ok (.getfield 102, 3) := by decide +kernel
theorem dX5_readLet_14 : decode cX5_readLet 14 = .ok (.istore_n 2, 1) := by decide +kernel
theorem dX5_readLet_15 : decode cX5_readLet 15 = .ok (.aload_n 0, 1) := by decide +kernel
theorem dX5_readLet_16 : decode cX5_readLet 16 = .ok (.bipush 61, 2) := by decide +kernel
theorem dX5_readLet_18 : decode cX5_readLet 18 = .ok (.invokevirtual 95, 3) := by decide +kernel
theorem dX5_readLet_21 : decode cX5_readLet 21 = .ok (.ifCond .eq 19, 3) := by decide +kernel
theorem dX5_readLet_24 : decode cX5_readLet 24 = .ok (.aload_n 0, 1) := by decide +kernel
theorem dX5_readLet_25 : decode cX5_readLet 25 = .ok (.aload_n 1, 1) := by decide +kernel
theorem dX5_readLet_26 : decode cX5_readLet 26 = .ok (.iconst 0, 1) := by decide +kernel
theorem dX5_readLet_27 : decode cX5_readLet 27 = .ok (.invokevirtual 131, 3) := by decide +kernel
theorem dX5_readLet_30 : decode cX5_readLet 30 = .ok (.ifCond .eq 10, 3) := by decide +kernel
theorem dX5_readLet_33 : decode cX5_readLet 33 = .ok (.aload_n 0, 1) := by decide +kernel
theorem dX5_readLet_34 : decode cX5_readLet 34 = .ok (.invokevirtual 134, 3) := by decide +kernel
theorem dX5_readLet_37 : decode cX5_readLet 37 = .ok (.ifCond .ne 5, 3) := by decide +kernel
theorem dX5_readLet_40 : decode cX5_readLet 40 = .ok (.iconst 0, 1) := by decide +kernel
theorem dX5_readLet_41 : decode cX5_readLet 41 = .ok (.ireturn, 1) := by decide +kernel
theorem dX5_readLet_42 : decode cX5_readLet 42 = .ok (.aload_n 0, 1) := by decide +kernel
theorem dX5_readLet_43 : decode cX5_readLet 43 = .ok (.getfield 102, 3) := by decide +kernel
theorem dX5_readLet_46 : decode cX5_readLet 46 = .ok (.istore_n 3, 1) := by decide +kernel
theorem dX5_readLet_47 : decode cX5_readLet 47 = .ok (.aload_n 0, 1) := by decide +kernel
theorem dX5_readLet_48 : decode cX5_readLet 48 = .ok (.aload_n 1, 1) := by decide +kernel
theorem dX5_readLet_49 : decode cX5_readLet 49 = .ok (.iconst 1, 1) := by decide +kernel
theorem dX5_readLet_50 : decode cX5_readLet 50 = .ok (.invokevirtual 131, 3) := by decide +kernel
theorem dX5_readLet_53 : decode cX5_readLet 53 = .ok (.ifCond .ne 5, 3) := by decide +kernel
theorem dX5_readLet_56 : decode cX5_readLet 56 = .ok (.iconst 0, 1) := by decide +kernel
theorem dX5_readLet_57 : decode cX5_readLet 57 = .ok (.ireturn, 1) := by decide +kernel
theorem dX5_readLet_58 : decode cX5_readLet 58 = .ok (.aload_n 1, 1) := by decide +kernel
theorem dX5_readLet_59 : decode cX5_readLet 59 = .ok (.getfield 44, 3) := by decide +kernel
theorem dX5_readLet_62 : decode cX5_readLet 62 = .ok (.iload_n 2, 1) := by decide +kernel
theorem dX5_readLet_63 : decode cX5_readLet 63 = .ok (.iload_n 3, 1) := by decide +kernel
theorem dX5_readLet_64 : decode cX5_readLet 64 = .ok (.invokevirtual 127, 3) := by decide +kernel
theorem dX5_readLet_67 : decode cX5_readLet 67 = .ok (.iconst 1, 1) := by decide +kernel
theorem dX5_readLet_68 : decode cX5_readLet 68 = .ok (.ireturn, 1) := by decide +kernel
theorem dX5_readWhat_0 : decode cX5_readWhat 0 = .ok (.aload_n 0, 1) := by decide +kernel
theorem dX5_readWhat_1 : decode cX5_readWhat 1 = .ok (.getfield 12, 3) := by decide +kernel
theorem dX5_readWhat_4 : decode cX5_readWhat 4 = .ok (.getfield 34, 3) := by decide +kernel
theorem dX5_readWhat_7 : decode cX5_readWhat 7 = .ok (.iconst 1, 1) := by decide +kernel
theorem dX5_readWhat_8 : decode cX5_readWhat 8 = .ok (.if_icmp .ne 45, 3) := by decide +kernel
theorem dX5_readWhat_11 : decode cX5_readWhat 11 = .ok (.aload_n 0, 1) := by decide +kernel
theorem dX5_readWhat_12 : decode cX5_readWhat 12 = .ok (.aload_n 1, 1) := by decide +kernel
theorem dX5_readWhat_13 : decode cX5_readWhat 13 = .ok (.getfield 44, 3) := by decide +kernel
theorem dX5_readWhat_16 : decode cX5_readWhat 16 = .ok (.aload_n 0, 1) := by decide +kernel
theorem dX5_readWhat_17 : decode cX5_readWhat 17 = .ok (.getfield 12, 3) := by decide +kernel
theorem dX5_readWhat_20 : decode cX5_readWhat 20 = .ok (.getfield 138, 3) := by decide +kernel
theorem dX5_readWhat_23 : decode cX5_readWhat 23 = .ok (.invokevirtual 141, 3) := by decide +kernel
theorem dX5_readWhat_26 : decode cX5_readWhat 26 = .ok (.invokevirtual 145, 3) := by decide +kernel
theorem dX5_readWhat_29 : decode cX5_readWhat 29 = .ok (.istore_n 3, 1) := by decide +kernel
theorem dX5_readWhat_30 : decode cX5_readWhat 30 = .ok (.aload_n 1, 1) := by decide +kernel
theorem dX5_readWhat_31 : decode cX5_readWhat 31 = .ok (.getfield 44, 3) := by decide +kernel
theorem dX5_readWhat_34 : decode cX5_readWhat 34 = .ok (.iload_n 2, 1) := by decide +kernel
theorem dX5_readWhat_35 : decode cX5_readWhat 35 = .ok (.iload_n 3, 1) := by decide +kernel
theorem dX5_readWhat_36 : decode cX5_readWhat 36 = .ok (.ifCond .eq 10, 3) := by decide +kernel
theorem dX5_readWhat_39 : decode cX5_readWhat 39 = .ok (.aload_n 0, 1) := by decide +kernel
theorem dX5_readWhat_40 : decode cX5_readWhat 40 = .ok (.getfield 102, 3) := by decide +kernel
theorem dX5_readWhat_43 : decode cX5_readWhat 43 = .ok (.goto 4, 3) := by decide +kernel
theorem dX5_readWhat_46 : decode cX5_readWhat 46 = .ok (.iconst (-1), 1) := by decide +kernel
theorem dX5_readWhat_47 : decode cX5_readWhat 47 = .ok (.iconst 0, 1) := by decide +kernel
theorem dX5_readWhat_48 : decode cX5_readWhat 48 = .ok (.invokevirtual 123, 3) := by decide +kernel
theorem dX5_readWhat_51 : decode cX5_readWhat 51 = .ok (.iload_n 3, 1) := by decide +kernel
theorem dX5_readWhat_52 : decode cX5_readWhat 52 = .ok (.ireturn, 1) := by decide +kernel
theorem dX5_readWhat_53 : decode cX5_readWhat 53 = .ok (.aload_n 0, 1) := by decide +kernel
theorem dX5_readWhat_54 : decode cX5_readWhat 54 = .ok (.iconst 1, 1) := by decide +kernel
theorem dX5_readWhat_55 : decode cX5_readWhat 55 = .ok (.ldc 148, 2) := by decide +kernel
theorem dX5_readWhat_57 : decode cX5_readWhat 57 = .ok (.ldc 108, 2) := by decide +kernel
theorem dX5_readWhat_59 : decode cX5_readWhat 59 = .ok (.invokevirtual 109, 3) := by decide +kernel
theorem dX5_readWhat_62 : decode cX5_readWhat 62 = .ok (.istore_n 3, 1) := by decide +kernel
theorem dX5_readWhat_63 : decode cX5_readWhat 63 = .ok (.aload_n 1, 1) := by decide +kernel
theorem dX5_readWhat_64 : decode cX5_readWhat 64 = .ok (.getfield 44, 3) := by decide +kernel
theorem dX5_readWhat_67 : decode cX5_readWhat 67 = .ok (.iload_n 2, 1) := by decide +kernel
theorem dX5_readWhat_68 : decode cX5_readWhat 68 = .ok (.iconst (-1), 1) := by decide +kernel
theorem dX5_readWhat_69 : decode cX5_readWhat 69 = .ok (.iload_n 3, 1) := by decide +kernel
theorem dX5_readWhat_70 : decode cX5_readWhat 70 = .ok (.ifCond .eq 10, 3) := by decide +kernel
theorem dX5_readWhat_73 : decode cX5_readWhat 73 = .ok (.aload_n 0, 1) := by decide +kernel
theorem dX5_readWhat_74 : decode cX5_readWhat 74 = .ok (.getfield 102, 3) := by decide +kernel
theorem dX5_readWhat_77 : decode cX5_readWhat 77 = .ok (.goto 4, 3) := by decide +kernel
theorem dX5_readWhat_80 : decode cX5_readWhat 80 = .ok (.iconst 0, 1) := by decide +kernel
theorem dX5_readWhat_81 : decode cX5_readWhat 81 = .ok (.invokevirtual 123, 3) := by decide +kernel
theorem dX5_readWhat_84 : decode cX5_readWhat 84 = .ok (.iload_n 3, 1) := by decide +kernel
theorem dX5_readWhat_85 : decode cX5_readWhat 85 = .ok (.ireturn, 1) := by decide +kernel
theorem dX5_readOp_0 : decode cX5_readOp 0 = .ok (.aload_n 0, 1) := by decide +kernel
theorem dX5_readOp_1 : decode cX5_readOp 1 = .ok (.getfield 12, 3) := by decide +kernel
theorem dX5_readOp_4 : decode cX5_readOp 4 = .ok (.bipush 43, 2) := by decide +kernel
theorem dX5_readOp_6 : decode cX5_readOp 6 = .ok (.invokevirtual 149, 3) := by decide +kernel
theorem dX5_readOp_9 : decode cX5_readOp 9 = .ok (.ifCond .eq 11, 3) := by decide +kernel
theorem dX5_readOp_12 : decode cX5_readOp 12 = .ok (.aload_n 0, 1) := by decide +kernel
theorem dX5_readOp_13 : decode cX5_readOp 13 = .ok (.iconst 1, 1) := by decide +kernel
theorem dX5_readOp_14 : decode cX5_readOp 14 = .ok (.putfield 102, 3) := by decide +kernel
theorem dX5_readOp_17 : decode cX5_readOp 17 = .ok (.goto 96, 3) := by decide +kernel
theorem dX5_readOp_20 : decode cX5_readOp 20 = .ok (.aload_n 0, 1) := by decide +kernel
theorem dX5_readOp_21 : decode cX5_readOp 21 = .ok (.getfield 12, 3) := by decide +kernel
theorem dX5_readOp_24 : decode cX5_readOp 24 = .ok (.bipush 45, 2) := by decide +kernel
theorem dX5_readOp_26 : decode cX5_readOp 26 = .ok (.invokevirtual 149, 3) := by decide +kernel
theorem dX5_readOp_29 : decode cX5_readOp 29 = .ok (.ifCond .eq 11, 3) := by decide +kernel
theorem dX5_readOp_32 : decode cX5_readOp 32 = .ok (.aload_n 0, 1) := by decide +kernel
theorem dX5_readOp_33 : decode cX5_readOp 33 = .ok (.iconst 2, 1) := by decide +kernel
theorem dX5_readOp_34 : decode cX5_readOp 34 = .ok (.putfield 102, 3) := by decide +kernel
theorem dX5_readOp_37 : decode cX5_readOp 37 = .ok (.goto 76, 3) := by decide +kernel
theorem dX5_readOp_40 : decode cX5_readOp 40 = .ok (.aload_n 0, 1) := by decide +kernel
theorem dX5_readOp_41 : decode cX5_readOp 41 = .ok (.getfield 12, 3) := by decide +kernel
theorem dX5_readOp_44 : decode cX5_readOp 44 = .ok (.bipush 42, 2) := by decide +kernel
theorem dX5_readOp_46 : decode cX5_readOp 46 = .ok (.invokevirtual 149, 3) := by decide +kernel
theorem dX5_readOp_49 : decode cX5_readOp 49 = .ok (.ifCond .eq 11, 3) := by decide +kernel
theorem dX5_readOp_52 : decode cX5_readOp 52 = .ok (.aload_n 0, 1) := by decide +kernel
theorem dX5_readOp_53 : decode cX5_readOp 53 = .ok (.iconst 3, 1) := by decide +kernel
theorem dX5_readOp_54 : decode cX5_readOp 54 = .ok (.putfield 102, 3) := by decide +kernel
theorem dX5_readOp_57 : decode cX5_readOp 57 = .ok (.goto 56, 3) := by decide +kernel
theorem dX5_readOp_60 : decode cX5_readOp 60 = .ok (.aload_n 0, 1) := by decide +kernel
theorem dX5_readOp_61 : decode cX5_readOp 61 = .ok (.getfield 12, 3) := by decide +kernel
theorem dX5_readOp_64 : decode cX5_readOp 64 = .ok (.bipush 7, 2) := by decide +kernel
theorem dX5_readOp_66 : decode cX5_readOp 66 = .ok (.invokevirtual 152, 3) := by decide +kernel
theorem dX5_readOp_69 : decode cX5_readOp 69 = .ok (.ifCond .eq 11, 3) := by decide +kernel
theorem dX5_readOp_72 : decode cX5_readOp 72 = .ok (.aload_n 0, 1) := by decide +kernel
theorem dX5_readOp_73 : decode cX5_readOp 73 = .ok (.iconst 4, 1) := by decide +kernel
theorem dX5_readOp_74 : decode cX5_readOp 74 = .ok (.putfield 102, 3) := by decide +kernel
theorem dX5_readOp_77 : decode cX5_readOp 77 = .ok (.goto 36, 3) := by decide +kernel
theorem dX5_readOp_80 : decode cX5_readOp 80 = .ok (.aload_n 0, 1) := by decide +kernel
theorem dX5_readOp_81 : decode cX5_readOp 81 = .ok (.getfield 12, 3) := by decide +kernel
theorem dX5_readOp_84 : decode cX5_readOp 84 = .ok (.bipush 8, 2) := by decide +kernel
theorem dX5_readOp_86 : decode cX5_readOp 86 = .ok (.invokevirtual 152, 3) := by decide +kernel
theorem dX5_readOp_89 : decode cX5_readOp 89 = .ok (.ifCond .eq 11, 3) := by decide +kernel
theorem dX5_readOp_92 : decode cX5_readOp 92 = .ok (.aload_n 0, 1) := by decide +kernel
theorem dX5_readOp_93 : decode cX5_readOp 93 = .ok (.iconst 5, 1) := by decide +kernel
theorem dX5_readOp_94 : decode cX5_readOp 94 = .ok (.putfield 102, 3) := by decide +kernel
theorem dX5_readOp_97 : decode cX5_readOp 97 = .ok (.goto 16, 3) := by decide +kernel
theorem dX5_readOp_100 : decode cX5_readOp 100 = .ok (.aload_n 0, 1) := by decide +kernel
theorem dX5_readOp_101 : decode cX5_readOp 101 = .ok (.iconst 1, 1) := by decide +kernel
theorem dX5_readOp_102 : decode cX5_readOp 102 = .ok (.aload_n 0, 1) := by decide +kernel
theorem dX5_readOp_103 : decode cX5_readOp 103 = .ok (.getfield 12, 3) := by decide +kernel
theorem dX5_readOp_106 : decode cX5_readOp 106 = .ok (.getfield 64, 3) := by decide +kernel
theorem dX5_readOp_109 : decode cX5_readOp 109 = .ok (.invokevirtual 53, 3) := by decide +kernel
theorem dX5_readOp_112 : decode cX5_readOp 112 = .ok (.ireturn, 1) := by decide +kernel
theorem dX5_readOp_113 : decode cX5_readOp 113 = .ok (.aload_n 0, 1) := by decide +kernel
theorem dX5_readOp_114 : decode cX5_readOp 114 = .ok (.getfield 12, 3) := by decide +kernel
theorem dX5_readOp_117 : decode cX5_readOp 117 = .ok (.invokevirtual 70, 3) := by decide +kernel
theorem dX5_readOp_120 : decode cX5_readOp 120 = .ok (.iconst 1, 1) := by decide +kernel
theorem dX5_readOp_121 : decode cX5_readOp 121 = .ok (.ireturn, 1) := by decide +kernel
theorem dX5_readFixed_0 : decode cX5_readFixed 0 = .ok (.aload_n 0, 1) := by decide +kernel
theorem dX5_readFixed_1 : decode cX5_readFixed 1 = .ok (.aload_n 1, 1) := by decide +kernel
theorem dX5_readFixed_2 : decode cX5_readFixed 2 = .ok (.getfield 44, 3) := by decide +kernel
theorem dX5_readFixed_5 : decode cX5_readFixed 5 = .ok (.aload_n 0, 1) := by decide +kernel
theorem dX5_readFixed_6 : decode cX5_readFixed 6 = .ok (.getfield 12, 3) := by decide +kernel
theorem dX5_readFixed_9 : decode cX5_readFixed 9 = .ok (.getfield 138, 3) := by decide +kernel
theorem dX5_readFixed_12 : decode cX5_readFixed 12 = .ok (.invokevirtual 141, 3) := by decide +kernel
theorem dX5_readFixed_15 : decode cX5_readFixed 15 = .ok (.invokevirtual 145, 3) := by decide +kernel
theorem dX5_readFixed_18 : decode cX5_readFixed 18 = .ok (.ifCond .ne 5, 3) := by decide +kernel
theorem dX5_readFixed_21 : decode cX5_readFixed 21 = .ok (.iconst 0, 1) := by decide +kernel
theorem dX5_readFixed_22 : decode cX5_readFixed 22 = .ok (.ireturn, 1) := by decide +kernel
theorem dX5_readFixed_23 : decode cX5_readFixed 23 = .ok (.aload_n 0, 1) := by decide +kernel
theorem dX5_readFixed_24 : decode cX5_readFixed 24 = .ok (.getfield 102, 3) := by decide +kernel
theorem dX5_readFixed_27 : decode cX5_readFixed 27 = .ok (.istore_n 2, 1) := by decide +kernel
theorem dX5_readFixed_28 : decode cX5_readFixed 28 = .ok (.aload_n 0, 1) := by decide +kernel
theorem dX5_readFixed_29 : decode cX5_readFixed 29 = .ok (.aload_n 1, 1) := by decide +kernel
theorem dX5_readFixed_30 : decode cX5_readFixed 30 = .ok (.aload_n 0, 1) := by decide +kernel
theorem dX5_readFixed_31 : decode cX5_readFixed 31 = .ok (.getfield 12, 3) := by decide +kernel
theorem dX5_readFixed_34 : decode cX5_readFixed 34 = .ok (.getfield 138, 3) := by decide +kernel
theorem dX5_readFixed_37 : decode cX5_readFixed 37 = .ok (.invokevirtual 155, 3) := by decide +kernel
theorem dX5_readFixed_40 : decode cX5_readFixed 40 = .ok (.invokevirtual 145, 3) := by decide +kernel
theorem dX5_readFixed_43 : decode cX5_readFixed 43 = .ok (.ifCond .ne 5, 3) := by decide +kernel
theorem dX5_readFixed_46 : decode cX5_readFixed 46 = .ok (.iconst 0, 1) := by decide +kernel
theorem dX5_readFixed_47 : decode cX5_readFixed 47 = .ok (.ireturn, 1) := by decide +kernel
theorem dX5_readFixed_48 : decode cX5_readFixed 48 = .ok (.aload_n 1, 1) := by decide +kernel
theorem dX5_readFixed_49 : decode cX5_readFixed 49 = .ok (.getfield 44, 3) := by decide +kernel
theorem dX5_readFixed_52 : decode cX5_readFixed 52 = .ok (.iload_n 2, 1) := by decide +kernel
theorem dX5_readFixed_53 : decode cX5_readFixed 53 = .ok (.aload_n 0, 1) := by decide +kernel
theorem dX5_readFixed_54 : decode cX5_readFixed 54 = .ok (.getfield 102, 3) := by decide +kernel
theorem dX5_readFixed_57 : decode cX5_readFixed 57 = .ok (.invokevirtual 158, 3) := by decide +kernel
theorem dX5_readFixed_60 : decode cX5_readFixed 60 = .ok (.iconst 1, 1) := by decide +kernel
theorem dX5_readFixed_61 : decode cX5_readFixed 61 = .ok (.ireturn, 1) := by decide +kernel
theorem dX5_readGroup_0 : decode cX5_readGroup 0 = .ok (.aload_n 0, 1) := by decide +kernel
theorem dX5_readGroup_1 : decode cX5_readGroup 1 = .ok (.aload_n 1, 1) := by decide +kernel
theorem dX5_readGroup_2 : decode cX5_readGroup 2 = .ok (.getfield 44, 3) := by decide +kernel
theorem dX5_readGroup_5 : decode cX5_readGroup 5 = .ok (.aload_n 0, 1) := by decide +kernel
theorem dX5_readGroup_6 : decode cX5_readGroup 6 = .ok (.getfield 12, 3) := by decide +kernel
theorem dX5_readGroup_9 : decode cX5_readGroup 9 = .ok (.getfield 138, 3) := by decide +kernel
theorem dX5_readGroup_12 : decode cX5_readGroup 12 = .ok (.invokevirtual 141, 3) := by decide +kernel
theorem dX5_readGroup_15 : decode cX5_readGroup 15 = .ok (.invokevirtual 145, 3) := by decide +kernel
theorem dX5_readGroup_18 : decode cX5_readGroup 18 = .ok (.ifCond .ne 5, 3) := by decide +kernel
theorem dX5_readGroup_21 : decode cX5_readGroup 21 = .ok (.iconst 0, 1) := by decide +kernel
theorem dX5_readGroup_22 : decode cX5_readGroup 22 = .ok (.ireturn, 1) := by decide +kernel
theorem dX5_readGroup_23 : decode cX5_readGroup 23 = .ok (.aload_n 0, 1) := by decide +kernel
theorem dX5_readGroup_24 : decode cX5_readGroup 24 = .ok (.getfield 102, 3) := by decide +kernel
theorem dX5_readGroup_27 : decode cX5_readGroup 27 = .ok (.istore_n 2, 1) := by decide +kernel
theorem dX5_readGroup_28 : decode cX5_readGroup 28 = .ok (.aload_n 0, 1) := by decide +kernel
theorem dX5_readGroup_29 : decode cX5_readGroup 29 = .ok (.getfield 12, 3) := by decide +kernel
theorem dX5_readGroup_32 : decode cX5_readGroup 32 = .ok (.getfield 64, 3) := by decide +kernel
theorem dX5_readGroup_35 : decode cX5_readGroup 35 = .ok (.istore_n 3, 1) := by decide +kernel
theorem dX5_readGroup_36 : decode cX5_readGroup 36 = .ok (.aload_n 0, 1) := by decide +kernel
theorem dX5_readGroup_37 : decode cX5_readGroup 37 = .ok (.aload_n 1, 1) := by decide +kernel
theorem dX5_readGroup_38 : decode cX5_readGroup 38 = .ok (.getfield 44, 3) := by decide +kernel
theorem dX5_readGroup_41 : decode cX5_readGroup 41 = .ok (.aload_n 0, 1) := by decide +kernel
theorem dX5_readGroup_42 : decode cX5_readGroup 42 = .ok (.getfield 12, 3) := by decide +kernel
theorem dX5_readGroup_45 : decode cX5_readGroup 45 = .ok (.getfield 138, 3) := by decide +kernel
theorem dX5_readGroup_48 : decode cX5_readGroup 48 = .ok (.invokevirtual 141, 3) := by decide +kernel
theorem dX5_readGroup_51 : decode cX5_readGroup 51 = .ok (.invokevirtual 145, 3) := by decide +kernel
theorem dX5_readGroup_54 : decode cX5_readGroup 54 = .ok (.ifCond .ne 5, 3) := by decide +kernel
theorem dX5_readGroup_57 : decode cX5_readGroup 57 = .ok (.iconst 0, 1) := by decide +kernel
theorem dX5_readGroup_58 : decode cX5_readGroup 58 = .ok (.ireturn, 1) := by decide +kernel
theorem dX5_readGroup_59 : decode cX5_readGroup 59 = .ok (.aload_n 0, 1) := by decide +kernel
theorem dX5_readGroup_60 : decode cX5_readGroup 60 = .ok (.getfield 102, 3) := by decide +kernel
theorem dX5_readGroup_63 : decode cX5_readGroup 63 = .ok (.iload_n 2, 1) := by decide +kernel
theorem dX5_readGroup_64 : decode cX5_readGroup 64 = .ok (.if_icmp .ne 10, 3) := by decide +kernel
theorem dX5_readGroup_67 : decode cX5_readGroup 67 = .ok (.aload_n 0, 1) := by decide +kernel
theorem dX5_readGroup_68 : decode cX5_readGroup 68 = .ok (.iconst 3, 1) := by decide +kernel
theorem dX5_readGroup_69 : decode cX5_readGroup 69 = .ok (.iload_n 3, 1) := by decide +kernel
theorem dX5_readGroup_70 : decode cX5_readGroup 70 = .ok (.invokevirtual 53, 3) := by decide +kernel
theorem dX5_readGroup_73 : decode cX5_readGroup 73 = .ok (.ireturn, 1) := by decide +kernel
theorem dX5_readGroup_74 : decode cX5_readGroup 74 = .ok (.aload_n 1, 1) := by decide +kernel
theorem dX5_readGroup_75 : decode cX5_readGroup 75 = .ok (.getfield 44, 3) := by decide +kernel
theorem dX5_readGroup_78 : decode cX5_readGroup 78 = .ok (.iload_n 2, 1) := by decide +kernel
theorem dX5_readGroup_79 : decode cX5_readGroup 79 = .ok (.aload_n 0, 1) := by decide +kernel
theorem dX5_readGroup_80 : decode cX5_readGroup 80 = .ok (.getfield 102, 3) := by decide +kernel
theorem dX5_readGroup_83 : decode cX5_readGroup 83 = .ok (.invokevirtual 161, 3) := by decide +kernel
theorem dX5_readGroup_86 : decode cX5_readGroup 86 = .ok (.iconst 1, 1) := by decide +kernel
theorem dX5_readGroup_87 : decode cX5_readGroup 87 = .ok (.ireturn, 1) := by decide +kernel
theorem dX5_readAnswer_0 : decode cX5_readAnswer 0 = .ok (.aload_n 0, 1) := by decide +kernel
theorem dX5_readAnswer_1 : decode cX5_readAnswer 1 = .ok (.aload_n 1, 1) := by decide +kernel
theorem dX5_readAnswer_2 : decode cX5_readAnswer 2 = .ok (.getfield 44, 3) := by decide +kernel
theorem dX5_readAnswer_5 : decode cX5_readAnswer 5 = .ok (.aload_n 0, 1) := by decide +kernel
theorem dX5_readAnswer_6 : decode cX5_readAnswer 6 = .ok (.getfield 12, 3) := by decide +kernel
theorem dX5_readAnswer_9 : decode cX5_readAnswer 9 = .ok (.getfield 138, 3) := by decide +kernel
theorem dX5_readAnswer_12 : decode cX5_readAnswer 12 = .ok (.invokevirtual 141, 3) := by decide +kernel
theorem dX5_readAnswer_15 : decode cX5_readAnswer 15 = .ok (.invokevirtual 145, 3) := by decide +kernel
theorem dX5_readAnswer_18 : decode cX5_readAnswer 18 = .ok (.ifCond .ne 5, 3) := by decide +kernel
theorem dX5_readAnswer_21 : decode cX5_readAnswer 21 = .ok (.iconst 0, 1) := by decide +kernel
theorem dX5_readAnswer_22 : decode cX5_readAnswer 22 = .ok (.ireturn, 1) := by decide +kernel
theorem dX5_readAnswer_23 : decode cX5_readAnswer 23 = .ok (.aload_n 0, 1) := by decide +kernel
theorem dX5_readAnswer_24 : decode cX5_readAnswer 24 = .ok (.getfield 102, 3) := by decide +kernel
theorem dX5_readAnswer_27 : decode cX5_readAnswer 27 = .ok (.istore_n 2, 1) := by decide +kernel
theorem dX5_readAnswer_28 : decode cX5_readAnswer 28 = .ok (.aload_n 0, 1) := by decide +kernel
theorem dX5_readAnswer_29 : decode cX5_readAnswer 29 = .ok (.bipush 12, 2) := by decide +kernel
theorem dX5_readAnswer_31 : decode cX5_readAnswer 31 = .ok (.invokevirtual 105, 3) := by decide +kernel
theorem dX5_readAnswer_34 : decode cX5_readAnswer 34 = .ok (.ifCond .eq 14, 3) := by decide +kernel
theorem dX5_readAnswer_37 : decode cX5_readAnswer 37 = .ok (.aload_n 0, 1) := by decide +kernel
theorem dX5_readAnswer_38 : decode cX5_readAnswer 38 = .ok (.iconst 0, 1) := by decide +kernel
theorem dX5_readAnswer_39 : decode cX5_readAnswer 39 = .ok (.iconst 0, 1) := by decide +kernel
theorem dX5_readAnswer_40 : decode cX5_readAnswer 40 = .ok (.ldc 108, 2) := by decide +kernel
theorem dX5_readAnswer_42 : decode cX5_readAnswer 42 = .ok (.invokevirtual 109, 3) := by decide +kernel
theorem dX5_readAnswer_45 : decode cX5_readAnswer 45 = .ok (.ifCond .ne 5, 3) := by decide +kernel
theorem dX5_readAnswer_48 : decode cX5_readAnswer 48 = .ok (.iconst 0, 1) := by decide +kernel
theorem dX5_readAnswer_49 : decode cX5_readAnswer 49 = .ok (.ireturn, 1) := by decide +kernel
theorem dX5_readAnswer_50 : decode cX5_readAnswer 50 = .ok (.aload_n 1, 1) := by decide +kernel
theorem dX5_readAnswer_51 : decode cX5_readAnswer 51 = .ok (.getfield 44, 3) := by decide +kernel
theorem dX5_readAnswer_54 : decode cX5_readAnswer 54 = .ok (.iload_n 2, 1) := by decide +kernel
theorem dX5_readAnswer_55 : decode cX5_readAnswer 55 = .ok (.aload_n 0, 1) := by decide +kernel
theorem dX5_readAnswer_56 : decode cX5_readAnswer 56 = .ok (.getfield 102, 3) := by decide +kernel
theorem dX5_readAnswer_59 : decode cX5_readAnswer 59 = .ok (.invokevirtual 164, 3) := by decide +kernel
theorem dX5_readAnswer_62 : decode cX5_readAnswer 62 = .ok (.iconst 1, 1) := by decide +kernel
theorem dX5_readAnswer_63 : decode cX5_readAnswer 63 = .ok (.ireturn, 1) := by decide +kernel
theorem dX5_readSign_0 : decode cX5_readSign 0 = .ok (.aload_n 0, 1) := by decide +kernel
theorem dX5_readSign_1 : decode cX5_readSign 1 = .ok (.getfield 12, 3) := by decide +kernel
theorem dX5_readSign_4 : decode cX5_readSign 4 = .ok (.iload_n 1, 1) := by decide +kernel
theorem dX5_readSign_5 : decode cX5_readSign 5 = .ok (.invokevirtual 149, 3) := by decide +kernel
theorem dX5_readSign_8 : decode cX5_readSign 8 = .ok (.ifCond .ne 16, 3) := by decide +kernel
theorem dX5_readSign_11 : decode cX5_readSign 11 = .ok (.aload_n 0, 1) := by decide +kernel
theorem dX5_readSign_12 : decode cX5_readSign 12 = .ok (.iconst 1, 1) := by decide +kernel
theorem dX5_readSign_13 : decode cX5_readSign 13 = .ok (.aload_n 0, 1) := by decide +kernel
theorem dX5_readSign_14 : decode cX5_readSign 14 = .ok (.getfield 12, 3) := by decide +kernel
theorem dX5_readSign_17 : decode cX5_readSign 17 = .ok (.getfield 64, 3) := by decide +kernel
theorem dX5_readSign_20 : decode cX5_readSign 20 = .ok (.invokevirtual 53, 3) := by decide +kernel
theorem dX5_readSign_23 : decode cX5_readSign 23 = .ok (.ireturn, 1) := by decide +kernel
theorem dX5_readSign_24 : decode cX5_readSign 24 = .ok (.aload_n 0, 1) := by decide +kernel
theorem dX5_readSign_25 : decode cX5_readSign 25 = .ok (.getfield 12, 3) := by decide +kernel
theorem dX5_readSign_28 : decode cX5_readSign 28 = .ok (.invokevirtual 70, 3) := by decide +kernel
theorem dX5_readSign_31 : decode cX5_readSign 31 = .ok (.iconst 1, 1) := by decide +kernel
theorem dX5_readSign_32 : decode cX5_readSign 32 = .ok (.ireturn, 1) := by decide +kernel
theorem dX5_readOwn_0 : decode cX5_readOwn 0 = .ok (.aload_n 0, 1) := by decide +kernel
theorem dX5_readOwn_1 : decode cX5_readOwn 1 = .ok (.getfield 12, 3) := by decide +kernel
theorem dX5_readOwn_4 : decode cX5_readOwn 4 = .ok (.iload_n 1, 1) := by decide +kernel
theorem dX5_readOwn_5 : decode cX5_readOwn 5 = .ok (.invokevirtual 152, 3) := by decide +kernel
theorem dX5_readOwn_8 : decode cX5_readOwn 8 = .ok (.ifCond .ne 16, 3) := by decide +kernel
theorem dX5_readOwn_11 : decode cX5_readOwn 11 = .ok (.aload_n 0, 1) := by decide +kernel
theorem dX5_readOwn_12 : decode cX5_readOwn 12 = .ok (.iconst 1, 1) := by decide +kernel
theorem dX5_readOwn_13 : decode cX5_readOwn 13 = .ok (.aload_n 0, 1) := by decide +kernel
theorem dX5_readOwn_14 : decode cX5_readOwn 14 = .ok (.getfield 12, 3) := by decide +kernel
theorem dX5_readOwn_17 : decode cX5_readOwn 17 = .ok (.getfield 64, 3) := by decide +kernel
theorem dX5_readOwn_20 : decode cX5_readOwn 20 = .ok (.invokevirtual 53, 3) := by decide +kernel
theorem dX5_readOwn_23 : decode cX5_readOwn 23 = .ok (.ireturn, 1) := by decide +kernel
theorem dX5_readOwn_24 : decode cX5_readOwn 24 = .ok (.aload_n 0, 1) := by decide +kernel
theorem dX5_readOwn_25 : decode cX5_readOwn 25 = .ok (.getfield 12, 3) := by decide +kernel
theorem dX5_readOwn_28 : decode cX5_readOwn 28 = .ok (.invokevirtual 70, 3) := by decide +kernel
theorem dX5_readOwn_31 : decode cX5_readOwn 31 = .ok (.iconst 1, 1) := by decide +kernel
theorem dX5_readOwn_32 : decode cX5_readOwn 32 = .ok (.ireturn, 1) := by decide +kernel
theorem dX5_readValue_0 : decode cX5_readValue 0 = .ok (.aload_n 0, 1) := by decide +kernel
theorem dX5_readValue_1 : decode cX5_readValue 1 = .ok (.getfield 12, 3) := by decide +kernel
theorem dX5_readValue_4 : decode cX5_readValue 4 = .ok (.getfield 64, 3) := by decide +kernel
theorem dX5_readValue_7 : decode cX5_readValue 7 = .ok (.istore 4, 2) := by decide +kernel
theorem dX5_readValue_9 : decode cX5_readValue 9 = .ok (.iload_n 1, 1) := by decide +kernel
theorem dX5_readValue_10 : decode cX5_readValue 10 = .ok (.ifCond .eq 19, 3) := by decide +kernel
theorem dX5_readValue_13 : decode cX5_readValue 13 = .ok (.aload_n 0, 1) := by decide +kernel
theorem dX5_readValue_14 : decode cX5_readValue 14 = .ok (.getfield 12, 3) := by decide +kernel
theorem dX5_readValue_17 : decode cX5_readValue 17 = .ok (.bipush 45, 2) := by decide +kernel
theorem dX5_readValue_19 : decode cX5_readValue 19 = .ok (.invokevirtual 149, 3) := by decide +kernel
theorem dX5_readValue_22 : decode cX5_readValue 22 = .ok (.ifCond .eq 7, 3) := by decide +kernel
theorem dX5_readValue_25 : decode cX5_readValue 25 = .ok (.iconst 1, 1) := by decide +kernel
theorem dX5_readValue_26 : decode cX5_readValue 26 = .ok (.goto 4, 3) := by decide +kernel
theorem dX5_readValue_29 : decode cX5_readValue 29 = .ok (.iconst 0, 1) := by decide +kernel
theorem dX5_readValue_30 : decode cX5_readValue 30 = .ok (.istore 5, 2) := by decide +kernel
theorem dX5_readValue_32 : decode cX5_readValue 32 = .ok (.iload 5, 2) := by decide +kernel
theorem dX5_readValue_34 : decode cX5_readValue 34 = .ok (.ifCond .eq 10, 3) := by decide +kernel
theorem dX5_readValue_37 : decode cX5_readValue 37 = .ok (.aload_n 0, 1) := by decide +kernel
theorem dX5_readValue_38 : decode cX5_readValue 38 = .ok (.getfield 12, 3) := by decide +kernel
theorem dX5_readValue_41 : decode cX5_readValue 41 = .ok (.invokevirtual 70, 3) := by decide +kernel
theorem dX5_readValue_44 : decode cX5_readValue 44 = .ok (.aload_n 0, 1) := by decide +kernel
theorem dX5_readValue_45 : decode cX5_readValue 45 = .ok (.getfield 12, 3) := by decide +kernel
theorem dX5_readValue_48 : decode cX5_readValue 48 = .ok (.getfield 34, 3) := by decide +kernel
theorem dX5_readValue_51 : decode cX5_readValue 51 = .ok (.iconst 2, 1) := by decide +kernel
theorem dX5_readValue_52 : decode cX5_readValue 52 = .ok (.if_icmp .eq 16, 3) := by decide +kernel
theorem dX5_readValue_55 : decode cX5_readValue 55 = .ok (.aload_n 0, 1) := by decide +kernel
theorem dX5_readValue_56 : decode cX5_readValue 56 = .ok (.iconst 1, 1) := by decide +kernel
theorem dX5_readValue_57 : decode cX5_readValue 57 = .ok (.aload_n 0, 1) := by decide +kernel
theorem dX5_readValue_58 : decode cX5_readValue 58 = .ok (.getfield 12, 3) := by decide +kernel
