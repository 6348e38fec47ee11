theorem dX12_broken_12 : decode cX12_broken 12 = .ok (.iconst 1, 1) := by decide +kernel
theorem dX12_broken_13 : decode cX12_broken 13 = .ok (.if_icmp .ne 10, 3) := by decide +kernel
theorem dX12_broken_16 : decode cX12_broken 16 = .ok (.aload_n 0, 1) := by decide +kernel
theorem dX12_broken_17 : decode cX12_broken 17 = .ok (.getfield 192, 3) := by decide +kernel
theorem dX12_broken_20 : decode cX12_broken 20 = .ok (.goto 4, 3) := by decide +kernel
theorem dX12_broken_23 : decode cX12_broken 23 = .ok (.iconst (-1), 1) := by decide +kernel
theorem dX12_broken_24 : decode cX12_broken 24 = .ok (.ireturn, 1) := by decide +kernel
theorem dX12_draw_0 : decode cX12_draw 0 = .ok (.ldc2_w 527, 3) := by decide +kernel
theorem dX12_draw_3 : decode cX12_draw 3 = .ok (.aload_n 0, 1) := by decide +kernel
theorem dX12_draw_4 : decode cX12_draw 4 = .ok (.getfield 207, 3) := by decide +kernel
theorem dX12_draw_7 : decode cX12_draw 7 = .ok (.i2l, 1) := by decide +kernel
theorem dX12_draw_8 : decode cX12_draw 8 = .ok (.lmul, 1) := by decide +kernel
theorem dX12_draw_9 : decode cX12_draw 9 = .ok (.ldc2_w 529, 3) := by decide +kernel
theorem dX12_draw_12 : decode cX12_draw 12 = .ok (.ladd, 1) := by decide +kernel
theorem dX12_draw_13 : decode cX12_draw 13 = .ok (.ldc2_w 531, 3) := by decide +kernel
theorem dX12_draw_16 : decode cX12_draw 16 = .ok (.lrem, 1) := by decide +kernel
theorem dX12_draw_17 : decode cX12_draw 17 = .ok (.lstore_n 3, 1) := by decide +kernel
theorem dX12_draw_18 : decode cX12_draw 18 = .ok (.aload_n 0, 1) := by decide +kernel
theorem dX12_draw_19 : decode cX12_draw 19 = .ok (.lload_n 3, 1) := by decide +kernel
theorem dX12_draw_20 : decode cX12_draw 20 = .ok (.l2i, 1) := by decide +kernel
theorem dX12_draw_21 : decode cX12_draw 21 = .ok (.putfield 207, 3) := by decide +kernel
theorem dX12_draw_24 : decode cX12_draw 24 = .ok (.lload_n 3, 1) := by decide +kernel
theorem dX12_draw_25 : decode cX12_draw 25 = .ok (.lload_n 1, 1) := by decide +kernel
theorem dX12_draw_26 : decode cX12_draw 26 = .ok (.lmul, 1) := by decide +kernel
theorem dX12_draw_27 : decode cX12_draw 27 = .ok (.ldc2_w 531, 3) := by decide +kernel
theorem dX12_draw_30 : decode cX12_draw 30 = .ok (.ldiv, 1) := by decide +kernel
theorem dX12_draw_31 : decode cX12_draw 31 = .ok (.lreturn, 1) := by decide +kernel
theorem dX12_exactOf_0 : decode cX12_exactOf 0 = .ok (.iload_n 2, 1) := by decide +kernel
theorem dX12_exactOf_1 : decode cX12_exactOf 1 = .ok (.ifCond .eq 12, 3) := by decide +kernel
theorem dX12_exactOf_4 : decode cX12_exactOf 4 = .ok (.aload_n 0, 1) := by decide +kernel
theorem dX12_exactOf_5 : decode cX12_exactOf 5 = .ok (.getfield 74, 3) := by decide +kernel
theorem dX12_exactOf_8 : decode cX12_exactOf 8 = .ok (.iload_n 1, 1) := by decide +kernel
theorem dX12_exactOf_9 : decode cX12_exactOf 9 = .ok (.iaload, 1) := by decide +kernel
theorem dX12_exactOf_10 : decode cX12_exactOf 10 = .ok (.goto 9, 3) := by decide +kernel
theorem dX12_exactOf_13 : decode cX12_exactOf 13 = .ok (.aload_n 0, 1) := by decide +kernel
theorem dX12_exactOf_14 : decode cX12_exactOf 14 = .ok (.getfield 71, 3) := by decide +kernel
theorem dX12_exactOf_17 : decode cX12_exactOf 17 = .ok (.iload_n 1, 1) := by decide +kernel
theorem dX12_exactOf_18 : decode cX12_exactOf 18 = .ok (.iaload, 1) := by decide +kernel
theorem dX12_exactOf_19 : decode cX12_exactOf 19 = .ok (.istore_n 3, 1) := by decide +kernel
theorem dX12_exactOf_20 : decode cX12_exactOf 20 = .ok (.iload_n 3, 1) := by decide +kernel
theorem dX12_exactOf_21 : decode cX12_exactOf 21 = .ok (.iconst (-1), 1) := by decide +kernel
theorem dX12_exactOf_22 : decode cX12_exactOf 22 = .ok (.if_icmp .ne 25, 3) := by decide +kernel
theorem dX12_exactOf_25 : decode cX12_exactOf 25 = .ok (.iload_n 2, 1) := by decide +kernel
theorem dX12_exactOf_26 : decode cX12_exactOf 26 = .ok (.ifCond .eq 12, 3) := by decide +kernel
theorem dX12_exactOf_29 : decode cX12_exactOf 29 = .ok (.aload_n 0, 1) := by decide +kernel
theorem dX12_exactOf_30 : decode cX12_exactOf 30 = .ok (.getfield 81, 3) := by decide +kernel
theorem dX12_exactOf_33 : decode cX12_exactOf 33 = .ok (.iload_n 1, 1) := by decide +kernel
theorem dX12_exactOf_34 : decode cX12_exactOf 34 = .ok (.laload, 1) := by decide +kernel
theorem dX12_exactOf_35 : decode cX12_exactOf 35 = .ok (.goto 18, 3) := by decide +kernel
theorem dX12_exactOf_38 : decode cX12_exactOf 38 = .ok (.aload_n 0, 1) := by decide +kernel
theorem dX12_exactOf_39 : decode cX12_exactOf 39 = .ok (.getfield 77, 3) := by decide +kernel
theorem dX12_exactOf_42 : decode cX12_exactOf 42 = .ok (.iload_n 1, 1) := by decide +kernel
theorem dX12_exactOf_43 : decode cX12_exactOf 43 = .ok (.laload, 1) := by decide +kernel
theorem dX12_exactOf_44 : decode cX12_exactOf 44 = .ok (.goto 9, 3) := by decide +kernel
theorem dX12_exactOf_47 : decode cX12_exactOf 47 = .ok (.aload_n 0, 1) := by decide +kernel
theorem dX12_exactOf_48 : decode cX12_exactOf 48 = .ok (.getfield 210, 3) := by decide +kernel
theorem dX12_exactOf_51 : decode cX12_exactOf 51 = .ok (.iload_n 3, 1) := by decide +kernel
theorem dX12_exactOf_52 : decode cX12_exactOf 52 = .ok (.laload, 1) := by decide +kernel
theorem dX12_exactOf_53 : decode cX12_exactOf 53 = .ok (.lreturn, 1) := by decide +kernel
theorem dX12_castOf_0 : decode cX12_castOf 0 = .ok (.iload_n 2, 1) := by decide +kernel
theorem dX12_castOf_1 : decode cX12_castOf 1 = .ok (.ifCond .eq 12, 3) := by decide +kernel
theorem dX12_castOf_4 : decode cX12_castOf 4 = .ok (.aload_n 0, 1) := by decide +kernel
theorem dX12_castOf_5 : decode cX12_castOf 5 = .ok (.getfield 74, 3) := by decide +kernel
theorem dX12_castOf_8 : decode cX12_castOf 8 = .ok (.iload_n 1, 1) := by decide +kernel
theorem dX12_castOf_9 : decode cX12_castOf 9 = .ok (.iaload, 1) := by decide +kernel
theorem dX12_castOf_10 : decode cX12_castOf 10 = .ok (.goto 9, 3) := by decide +kernel
theorem dX12_castOf_13 : decode cX12_castOf 13 = .ok (.aload_n 0, 1) := by decide +kernel
theorem dX12_castOf_14 : decode cX12_castOf 14 = .ok (.getfield 71, 3) := by decide +kernel
theorem dX12_castOf_17 : decode cX12_castOf 17 = .ok (.iload_n 1, 1) := by decide +kernel
theorem dX12_castOf_18 : decode cX12_castOf 18 = .ok (.iaload, 1) := by decide +kernel
theorem dX12_castOf_19 : decode cX12_castOf 19 = .ok (.istore_n 3, 1) := by decide +kernel
theorem dX12_castOf_20 : decode cX12_castOf 20 = .ok (.iload_n 3, 1) := by decide +kernel
theorem dX12_castOf_21 : decode cX12_castOf 21 = .ok (.iconst (-1), 1) := by decide +kernel
theorem dX12_castOf_22 : decode cX12_castOf 22 = .ok (.if_icmp .ne 25, 3) := by decide +kernel
theorem dX12_castOf_25 : decode cX12_castOf 25 = .ok (.iload_n 2, 1) := by decide +kernel
theorem dX12_castOf_26 : decode cX12_castOf 26 = .ok (.ifCond .eq 12, 3) := by decide +kernel
theorem dX12_castOf_29 : decode cX12_castOf 29 = .ok (.aload_n 0, 1) := by decide +kernel
theorem dX12_castOf_30 : decode cX12_castOf 30 = .ok (.getfield 81, 3) := by decide +kernel
theorem dX12_castOf_33 : decode cX12_castOf 33 = .ok (.iload_n 1, 1) := by decide +kernel
theorem dX12_castOf_34 : decode cX12_castOf 34 = .ok (.laload, 1) := by decide +kernel
theorem dX12_castOf_35 : decode cX12_castOf 35 = .ok (.goto 18, 3) := by decide +kernel
theorem dX12_castOf_38 : decode cX12_castOf 38 = .ok (.aload_n 0, 1) := by decide +kernel
theorem dX12_castOf_39 : decode cX12_castOf 39 = .ok (.getfield 77, 3) := by decide +kernel
theorem dX12_castOf_42 : decode cX12_castOf 42 = .ok (.iload_n 1, 1) := by decide +kernel
theorem dX12_castOf_43 : decode cX12_castOf 43 = .ok (.laload, 1) := by decide +kernel
theorem dX12_castOf_44 : decode cX12_castOf 44 = .ok (.goto 9, 3) := by decide +kernel
theorem dX12_castOf_47 : decode cX12_castOf 47 = .ok (.aload_n 0, 1) := by decide +kernel
theorem dX12_castOf_48 : decode cX12_castOf 48 = .ok (.getfield 213, 3) := by decide +kernel
theorem dX12_castOf_51 : decode cX12_castOf 51 = .ok (.iload_n 3, 1) := by decide +kernel
theorem dX12_castOf_52 : decode cX12_castOf 52 = .ok (.laload, 1) := by decide +kernel
theorem dX12_castOf_53 : decode cX12_castOf 53 = .ok (.aload_n 0, 1) := by decide +kernel
theorem dX12_castOf_54 : decode cX12_castOf 54 = .ok (.getfield 53, 3) := by decide +kernel
theorem dX12_castOf_57 : decode cX12_castOf 57 = .ok (.aload_n 0, 1) := by decide +kernel
theorem dX12_castOf_58 : decode cX12_castOf 58 = .ok (.getfield 125, 3) := by decide +kernel
theorem dX12_castOf_61 : decode cX12_castOf 61 = .ok (.iload_n 1, 1) := by decide +kernel
theorem dX12_castOf_62 : decode cX12_castOf 62 = .ok (.iaload, 1) := by decide +kernel
theorem dX12_castOf_63 : decode cX12_castOf 63 = .ok (.iaload, 1) := by decide +kernel
theorem dX12_castOf_64 : decode cX12_castOf 64 = .ok (.i2l, 1) := by decide +kernel
theorem dX12_castOf_65 : decode cX12_castOf 65 = .ok (.invokestatic 533, 3) := by decide +kernel
theorem dX12_castOf_68 : decode cX12_castOf 68 = .ok (.lreturn, 1) := by decide +kernel
theorem dX12_triesOnce_0 : decode cX12_triesOnce 0 = .ok (.iconst 0, 1) := by decide +kernel
theorem dX12_triesOnce_1 : decode cX12_triesOnce 1 = .ok (.istore_n 1, 1) := by decide +kernel
theorem dX12_triesOnce_2 : decode cX12_triesOnce 2 = .ok (.iload_n 1, 1) := by decide +kernel
theorem dX12_triesOnce_3 : decode cX12_triesOnce 3 = .ok (.aload_n 0, 1) := by decide +kernel
theorem dX12_triesOnce_4 : decode cX12_triesOnce 4 = .ok (.getfield 62, 3) := by decide +kernel
theorem dX12_triesOnce_7 : decode cX12_triesOnce 7 = .ok (.iconst 0, 1) := by decide +kernel
theorem dX12_triesOnce_8 : decode cX12_triesOnce 8 = .ok (.iaload, 1) := by decide +kernel
theorem dX12_triesOnce_9 : decode cX12_triesOnce 9 = .ok (.if_icmp .ge 138, 3) := by decide +kernel
theorem dX12_triesOnce_12 : decode cX12_triesOnce 12 = .ok (.aload_n 0, 1) := by decide +kernel
theorem dX12_triesOnce_13 : decode cX12_triesOnce 13 = .ok (.getfield 53, 3) := by decide +kernel
theorem dX12_triesOnce_16 : decode cX12_triesOnce 16 = .ok (.aload_n 0, 1) := by decide +kernel
theorem dX12_triesOnce_17 : decode cX12_triesOnce 17 = .ok (.getfield 125, 3) := by decide +kernel
theorem dX12_triesOnce_20 : decode cX12_triesOnce 20 = .ok (.iload_n 1, 1) := by decide +kernel
theorem dX12_triesOnce_21 : decode cX12_triesOnce 21 = .ok (.iaload, 1) := by decide +kernel
theorem dX12_triesOnce_22 : decode cX12_triesOnce 22 = .ok (.iaload, 1) := by decide +kernel
theorem dX12_triesOnce_23 : decode cX12_triesOnce 23 = .ok (.i2l, 1) := by decide +kernel
theorem dX12_triesOnce_24 : decode cX12_triesOnce 24 = .ok (.lstore_n 2, 1) := by decide +kernel
theorem dX12_triesOnce_25 : decode cX12_triesOnce 25 = .ok (.aload_n 0, 1) := by decide +kernel
theorem dX12_triesOnce_26 : decode cX12_triesOnce 26 = .ok (.getfield 68, 3) := by decide +kernel
theorem dX12_triesOnce_29 : decode cX12_triesOnce 29 = .ok (.iload_n 1, 1) := by decide +kernel
theorem dX12_triesOnce_30 : decode cX12_triesOnce 30 = .ok (.iaload, 1) := by decide +kernel
theorem dX12_triesOnce_31 : decode cX12_triesOnce 31 = .ok (.ifCond .ne 54, 3) := by decide +kernel
theorem dX12_triesOnce_34 : decode cX12_triesOnce 34 = .ok (.aload_n 0, 1) := by decide +kernel
theorem dX12_triesOnce_35 : decode cX12_triesOnce 35 = .ok (.getfield 210, 3) := by decide +kernel
theorem dX12_triesOnce_38 : decode cX12_triesOnce 38 = .ok (.iload_n 1, 1) := by decide +kernel
theorem dX12_triesOnce_39 : decode cX12_triesOnce 39 = .ok (.aload_n 0, 1) := by decide +kernel
theorem dX12_triesOnce_40 : decode cX12_triesOnce 40 = .ok (.getfield 77, 3) := by decide +kernel
theorem dX12_triesOnce_43 : decode cX12_triesOnce 43 = .ok (.iload_n 1, 1) := by decide +kernel
theorem dX12_triesOnce_44 : decode cX12_triesOnce 44 = .ok (.laload, 1) := by decide +kernel
theorem dX12_triesOnce_45 : decode cX12_triesOnce 45 = .ok (.aload_n 0, 1) := by decide +kernel
theorem dX12_triesOnce_46 : decode cX12_triesOnce 46 = .ok (.aload_n 0, 1) := by decide +kernel
theorem dX12_triesOnce_47 : decode cX12_triesOnce 47 = .ok (.getfield 81, 3) := by decide +kernel
theorem dX12_triesOnce_50 : decode cX12_triesOnce 50 = .ok (.iload_n 1, 1) := by decide +kernel
theorem dX12_triesOnce_51 : decode cX12_triesOnce 51 = .ok (.laload, 1) := by decide +kernel
theorem dX12_triesOnce_52 : decode cX12_triesOnce 52 = .ok (.aload_n 0, 1) := by decide +kernel
theorem dX12_triesOnce_53 : decode cX12_triesOnce 53 = .ok (.getfield 77, 3) := by decide +kernel
theorem dX12_triesOnce_56 : decode cX12_triesOnce 56 = .ok (.iload_n 1, 1) := by decide +kernel
theorem dX12_triesOnce_57 : decode cX12_triesOnce 57 = .ok (.laload, 1) := by decide +kernel
theorem dX12_triesOnce_58 : decode cX12_triesOnce 58 = .ok (.lsub, 1) := by decide +kernel
theorem dX12_triesOnce_59 : decode cX12_triesOnce 59 = .ok (.lconst 1, 1) := by decide +kernel
theorem dX12_triesOnce_60 : decode cX12_triesOnce 60 = .ok (.ladd, 1) := by decide +kernel
theorem dX12_triesOnce_61 : decode cX12_triesOnce 61 = .ok (.invokevirtual 536, 3) := by decide +kernel
theorem dX12_triesOnce_64 : decode cX12_triesOnce 64 = .ok (.ladd, 1) := by decide +kernel
theorem dX12_triesOnce_65 : decode cX12_triesOnce 65 = .ok (.lastore, 1) := by decide +kernel
theorem dX12_triesOnce_66 : decode cX12_triesOnce 66 = .ok (.aload_n 0, 1) := by decide +kernel
theorem dX12_triesOnce_67 : decode cX12_triesOnce 67 = .ok (.getfield 213, 3) := by decide +kernel
theorem dX12_triesOnce_70 : decode cX12_triesOnce 70 = .ok (.iload_n 1, 1) := by decide +kernel
theorem dX12_triesOnce_71 : decode cX12_triesOnce 71 = .ok (.aload_n 0, 1) := by decide +kernel
theorem dX12_triesOnce_72 : decode cX12_triesOnce 72 = .ok (.getfield 210, 3) := by decide +kernel
theorem dX12_triesOnce_75 : decode cX12_triesOnce 75 = .ok (.iload_n 1, 1) := by decide +kernel
theorem dX12_triesOnce_76 : decode cX12_triesOnce 76 = .ok (.laload, 1) := by decide +kernel
theorem dX12_triesOnce_77 : decode cX12_triesOnce 77 = .ok (.lload_n 2, 1) := by decide +kernel
theorem dX12_triesOnce_78 : decode cX12_triesOnce 78 = .ok (.invokestatic 533, 3) := by decide +kernel
theorem dX12_triesOnce_81 : decode cX12_triesOnce 81 = .ok (.lastore, 1) := by decide +kernel
theorem dX12_triesOnce_82 : decode cX12_triesOnce 82 = .ok (.goto 59, 3) := by decide +kernel
theorem dX12_triesOnce_85 : decode cX12_triesOnce 85 = .ok (.aload_n 0, 1) := by decide +kernel
theorem dX12_triesOnce_86 : decode cX12_triesOnce 86 = .ok (.getfield 210, 3) := by decide +kernel
theorem dX12_triesOnce_89 : decode cX12_triesOnce 89 = .ok (.iload_n 1, 1) := by decide +kernel
theorem dX12_triesOnce_90 : decode cX12_triesOnce 90 = .ok (.aload_n 0, 1) := by decide +kernel
theorem dX12_triesOnce_91 : decode cX12_triesOnce 91 = .ok (.getfield 68, 3) := by decide +kernel
theorem dX12_triesOnce_94 : decode cX12_triesOnce 94 = .ok (.iload_n 1, 1) := by decide +kernel
theorem dX12_triesOnce_95 : decode cX12_triesOnce 95 = .ok (.iaload, 1) := by decide +kernel
theorem dX12_triesOnce_96 : decode cX12_triesOnce 96 = .ok (.aload_n 0, 1) := by decide +kernel
theorem dX12_triesOnce_97 : decode cX12_triesOnce 97 = .ok (.iload_n 1, 1) := by decide +kernel
theorem dX12_triesOnce_98 : decode cX12_triesOnce 98 = .ok (.iconst 0, 1) := by decide +kernel
theorem dX12_triesOnce_99 : decode cX12_triesOnce 99 = .ok (.invokevirtual 539, 3) := by decide +kernel
theorem dX12_triesOnce_102 : decode cX12_triesOnce 102 = .ok (.aload_n 0, 1) := by decide +kernel
theorem dX12_triesOnce_103 : decode cX12_triesOnce 103 = .ok (.iload_n 1, 1) := by decide +kernel
theorem dX12_triesOnce_104 : decode cX12_triesOnce 104 = .ok (.iconst 1, 1) := by decide +kernel
theorem dX12_triesOnce_105 : decode cX12_triesOnce 105 = .ok (.invokevirtual 539, 3) := by decide +kernel
theorem dX12_triesOnce_108 : decode cX12_triesOnce 108 = .ok (.lconst 1, 1) := by decide +kernel
theorem dX12_triesOnce_109 : decode cX12_triesOnce 109 = .ok (.invokestatic 406, 3) := by decide +kernel
theorem dX12_triesOnce_112 : decode cX12_triesOnce 112 = .ok (.lastore, 1) := by decide +kernel
theorem dX12_triesOnce_113 : decode cX12_triesOnce 113 = .ok (.aload_n 0, 1) := by decide +kernel
theorem dX12_triesOnce_114 : decode cX12_triesOnce 114 = .ok (.getfield 213, 3) := by decide +kernel
theorem dX12_triesOnce_117 : decode cX12_triesOnce 117 = .ok (.iload_n 1, 1) := by decide +kernel
theorem dX12_triesOnce_118 : decode cX12_triesOnce 118 = .ok (.aload_n 0, 1) := by decide +kernel
theorem dX12_triesOnce_119 : decode cX12_triesOnce 119 = .ok (.getfield 68, 3) := by decide +kernel
theorem dX12_triesOnce_122 : decode cX12_triesOnce 122 = .ok (.iload_n 1, 1) := by decide +kernel
theorem dX12_triesOnce_123 : decode cX12_triesOnce 123 = .ok (.iaload, 1) := by decide +kernel
theorem dX12_triesOnce_124 : decode cX12_triesOnce 124 = .ok (.aload_n 0, 1) := by decide +kernel
theorem dX12_triesOnce_125 : decode cX12_triesOnce 125 = .ok (.iload_n 1, 1) := by decide +kernel
theorem dX12_triesOnce_126 : decode cX12_triesOnce 126 = .ok (.iconst 0, 1) := by decide +kernel
theorem dX12_triesOnce_127 : decode cX12_triesOnce 127 = .ok (.invokevirtual 542, 3) := by decide +kernel
theorem dX12_triesOnce_130 : decode cX12_triesOnce 130 = .ok (.aload_n 0, 1) := by decide +kernel
theorem dX12_triesOnce_131 : decode cX12_triesOnce 131 = .ok (.iload_n 1, 1) := by decide +kernel
theorem dX12_triesOnce_132 : decode cX12_triesOnce 132 = .ok (.iconst 1, 1) := by decide +kernel
theorem dX12_triesOnce_133 : decode cX12_triesOnce 133 = .ok (.invokevirtual 542, 3) := by decide +kernel
theorem dX12_triesOnce_136 : decode cX12_triesOnce 136 = .ok (.lload_n 2, 1) := by decide +kernel
theorem dX12_triesOnce_137 : decode cX12_triesOnce 137 = .ok (.invokestatic 406, 3) := by decide +kernel
theorem dX12_triesOnce_140 : decode cX12_triesOnce 140 = .ok (.lastore, 1) := by decide +kernel
theorem dX12_triesOnce_141 : decode cX12_triesOnce 141 = .ok (.iinc 1 1, 3) := by decide +kernel
theorem dX12_triesOnce_144 : decode cX12_triesOnce 144 = .ok (.goto (-142), 3) := by decide +kernel
theorem dX12_triesOnce_147 : decode cX12_triesOnce 147 = .ok (.return_, 1) := by decide +kernel
theorem dX12_trials_0 : decode cX12_trials 0 = .ok (.iload_n 1, 1) := by decide +kernel
theorem dX12_trials_1 : decode cX12_trials 1 = .ok (.i2l, 1) := by decide +kernel
theorem dX12_trials_2 : decode cX12_trials 2 = .ok (.lconst 1, 1) := by decide +kernel
theorem dX12_trials_3 : decode cX12_trials 3 = .ok (.ldc2_w 545, 3) := by decide +kernel
theorem dX12_trials_6 : decode cX12_trials 6 = .ok (.invokestatic 263, 3) := by decide +kernel
theorem dX12_trials_9 : decode cX12_trials 9 = .ok (.ifCond .eq 18, 3) := by decide +kernel
theorem dX12_trials_12 : decode cX12_trials 12 = .ok (.aload_n 0, 1) := by decide +kernel
theorem dX12_trials_13 : decode cX12_trials 13 = .ok (.iload_n 2, 1) := by decide +kernel
theorem dX12_trials_14 : decode cX12_trials 14 = .ok (.invokevirtual 373, 3) := by decide +kernel
theorem dX12_trials_17 : decode cX12_trials 17 = .ok (.ifCond .eq 10, 3) := by decide +kernel
theorem dX12_trials_20 : decode cX12_trials 20 = .ok (.aload_n 0, 1) := by decide +kernel
theorem dX12_trials_21 : decode cX12_trials 21 = .ok (.invokevirtual 452, 3) := by decide +kernel
theorem dX12_trials_24 : decode cX12_trials 24 = .ok (.ifCond .ne 10, 3) := by decide +kernel
theorem dX12_trials_27 : decode cX12_trials 27 = .ok (.aload_n 0, 1) := by decide +kernel
theorem dX12_trials_28 : decode cX12_trials 28 = .ok (.iconst 4, 1) := by decide +kernel
theorem dX12_trials_29 : decode cX12_trials 29 = .ok (.invokevirtual 216, 3) := by decide +kernel
theorem dX12_trials_32 : decode cX12_trials 32 = .ok (.i2l, 1) := by decide +kernel
theorem dX12_trials_33 : decode cX12_trials 33 = .ok (.lreturn, 1) := by decide +kernel
theorem dX12_trials_34 : decode cX12_trials 34 = .ok (.lconst 0, 1) := by decide +kernel
theorem dX12_trials_35 : decode cX12_trials 35 = .ok (.lstore_n 3, 1) := by decide +kernel
theorem dX12_trials_36 : decode cX12_trials 36 = .ok (.iconst 0, 1) := by decide +kernel
theorem dX12_trials_37 : decode cX12_trials 37 = .ok (.istore 5, 2) := by decide +kernel
theorem dX12_trials_39 : decode cX12_trials 39 = .ok (.iload 5, 2) := by decide +kernel
theorem dX12_trials_41 : decode cX12_trials 41 = .ok (.iload_n 1, 1) := by decide +kernel
theorem dX12_trials_42 : decode cX12_trials 42 = .ok (.if_icmp .ge 34, 3) := by decide +kernel
theorem dX12_trials_45 : decode cX12_trials 45 = .ok (.aload_n 0, 1) := by decide +kernel
theorem dX12_trials_46 : decode cX12_trials 46 = .ok (.invokevirtual 547, 3) := by decide +kernel
theorem dX12_trials_49 : decode cX12_trials 49 = .ok (.lload_n 3, 1) := by decide +kernel
theorem dX12_trials_50 : decode cX12_trials 50 = .ok (.aload_n 0, 1) := by decide +kernel
theorem dX12_trials_51 : decode cX12_trials 51 = .ok (.getfield 213, 3) := by decide +kernel
theorem dX12_trials_54 : decode cX12_trials 54 = .ok (.iload_n 2, 1) := by decide +kernel
theorem dX12_trials_55 : decode cX12_trials 55 = .ok (.laload, 1) := by decide +kernel
theorem dX12_trials_56 : decode cX12_trials 56 = .ok (.aload_n 0, 1) := by decide +kernel
theorem dX12_trials_57 : decode cX12_trials 57 = .ok (.getfield 210, 3) := by decide +kernel
theorem dX12_trials_60 : decode cX12_trials 60 = .ok (.iload_n 2, 1) := by decide +kernel
theorem dX12_trials_61 : decode cX12_trials 61 = .ok (.laload, 1) := by decide +kernel
theorem dX12_trials_62 : decode cX12_trials 62 = .ok (.lsub, 1) := by decide +kernel
theorem dX12_trials_63 : decode cX12_trials 63 = .ok (.invokestatic 410, 3) := by decide +kernel
theorem dX12_trials_66 : decode cX12_trials 66 = .ok (.invokestatic 396, 3) := by decide +kernel
theorem dX12_trials_69 : decode cX12_trials 69 = .ok (.lstore_n 3, 1) := by decide +kernel
theorem dX12_trials_70 : decode cX12_trials 70 = .ok (.iinc 5 1, 3) := by decide +kernel
theorem dX12_trials_73 : decode cX12_trials 73 = .ok (.goto (-34), 3) := by decide +kernel
theorem dX12_trials_76 : decode cX12_trials 76 = .ok (.lload_n 3, 1) := by decide +kernel
theorem dX12_trials_77 : decode cX12_trials 77 = .ok (.lreturn, 1) := by decide +kernel
theorem dX12_trial_0 : decode cX12_trial 0 = .ok (.aload_n 0, 1) := by decide +kernel
theorem dX12_trial_1 : decode cX12_trial 1 = .ok (.iload_n 1, 1) := by decide +kernel
theorem dX12_trial_2 : decode cX12_trial 2 = .ok (.invokevirtual 373, 3) := by decide +kernel
theorem dX12_trial_5 : decode cX12_trial 5 = .ok (.ifCond .eq 10, 3) := by decide +kernel
theorem dX12_trial_8 : decode cX12_trial 8 = .ok (.aload_n 0, 1) := by decide +kernel
theorem dX12_trial_9 : decode cX12_trial 9 = .ok (.invokevirtual 452, 3) := by decide +kernel
theorem dX12_trial_12 : decode cX12_trial 12 = .ok (.ifCond .ne 7, 3) := by decide +kernel
theorem dX12_trial_15 : decode cX12_trial 15 = .ok (.ldc2_w 381, 3) := by decide +kernel
theorem dX12_trial_18 : decode cX12_trial 18 = .ok (.lreturn, 1) := by decide +kernel
theorem dX12_trial_19 : decode cX12_trial 19 = .ok (.aload_n 0, 1) := by decide +kernel
theorem dX12_trial_20 : decode cX12_trial 20 = .ok (.getfield 207, 3) := by decide +kernel
theorem dX12_trial_23 : decode cX12_trial 23 = .ok (.istore_n 3, 1) := by decide +kernel
theorem dX12_trial_24 : decode cX12_trial 24 = .ok (.aload_n 0, 1) := by decide +kernel
theorem dX12_trial_25 : decode cX12_trial 25 = .ok (.invokevirtual 547, 3) := by decide +kernel
theorem dX12_trial_28 : decode cX12_trial 28 = .ok (.aload_n 0, 1) := by decide +kernel
theorem dX12_trial_29 : decode cX12_trial 29 = .ok (.iload_n 3, 1) := by decide +kernel
theorem dX12_trial_30 : decode cX12_trial 30 = .ok (.putfield 207, 3) := by decide +kernel
theorem dX12_trial_33 : decode cX12_trial 33 = .ok (.iload_n 2, 1) := by decide +kernel
theorem dX12_trial_34 : decode cX12_trial 34 = .ok (.ifCond .eq 12, 3) := by decide +kernel
theorem dX12_trial_37 : decode cX12_trial 37 = .ok (.aload_n 0, 1) := by decide +kernel
theorem dX12_trial_38 : decode cX12_trial 38 = .ok (.getfield 213, 3) := by decide +kernel
theorem dX12_trial_41 : decode cX12_trial 41 = .ok (.iload_n 1, 1) := by decide +kernel
theorem dX12_trial_42 : decode cX12_trial 42 = .ok (.laload, 1) := by decide +kernel
theorem dX12_trial_43 : decode cX12_trial 43 = .ok (.goto 9, 3) := by decide +kernel
theorem dX12_trial_46 : decode cX12_trial 46 = .ok (.aload_n 0, 1) := by decide +kernel
theorem dX12_trial_47 : decode cX12_trial 47 = .ok (.getfield 210, 3) := by decide +kernel
theorem dX12_trial_50 : decode cX12_trial 50 = .ok (.iload_n 1, 1) := by decide +kernel
theorem dX12_trial_51 : decode cX12_trial 51 = .ok (.laload, 1) := by decide +kernel
theorem dX12_trial_52 : decode cX12_trial 52 = .ok (.lreturn, 1) := by decide +kernel
theorem dX12_seed_0 : decode cX12_seed 0 = .ok (.iload_n 1, 1) := by decide +kernel
theorem dX12_seed_1 : decode cX12_seed 1 = .ok (.ifCond .ge 9, 3) := by decide +kernel
theorem dX12_seed_4 : decode cX12_seed 4 = .ok (.aload_n 0, 1) := by decide +kernel
theorem dX12_seed_5 : decode cX12_seed 5 = .ok (.iconst 4, 1) := by decide +kernel
theorem dX12_seed_6 : decode cX12_seed 6 = .ok (.invokevirtual 224, 3) := by decide +kernel
theorem dX12_seed_9 : decode cX12_seed 9 = .ok (.ireturn, 1) := by decide +kernel
theorem dX12_seed_10 : decode cX12_seed 10 = .ok (.aload_n 0, 1) := by decide +kernel
theorem dX12_seed_11 : decode cX12_seed 11 = .ok (.iload_n 1, 1) := by decide +kernel
theorem dX12_seed_12 : decode cX12_seed 12 = .ok (.putfield 207, 3) := by decide +kernel
theorem dX12_seed_15 : decode cX12_seed 15 = .ok (.iconst 1, 1) := by decide +kernel
theorem dX12_seed_16 : decode cX12_seed 16 = .ok (.ireturn, 1) := by decide +kernel
theorem dX12_status_0 : decode cX12_status 0 = .ok (.iload_n 1, 1) := by decide +kernel
theorem dX12_status_1 : decode cX12_status 1 = .ok (.i2l, 1) := by decide +kernel
theorem dX12_status_2 : decode cX12_status 2 = .ok (.lconst 0, 1) := by decide +kernel
theorem dX12_status_3 : decode cX12_status 3 = .ok (.ldc2_w 550, 3) := by decide +kernel
theorem dX12_status_6 : decode cX12_status 6 = .ok (.invokestatic 263, 3) := by decide +kernel
theorem dX12_status_9 : decode cX12_status 9 = .ok (.ifCond .eq 12, 3) := by decide +kernel
theorem dX12_status_12 : decode cX12_status 12 = .ok (.aload_n 0, 1) := by decide +kernel
theorem dX12_status_13 : decode cX12_status 13 = .ok (.getfield 17, 3) := by decide +kernel
theorem dX12_status_16 : decode cX12_status 16 = .ok (.iload_n 1, 1) := by decide +kernel
theorem dX12_status_17 : decode cX12_status 17 = .ok (.iaload, 1) := by decide +kernel
theorem dX12_status_18 : decode cX12_status 18 = .ok (.goto 4, 3) := by decide +kernel
theorem dX12_status_21 : decode cX12_status 21 = .ok (.iconst (-1), 1) := by decide +kernel
theorem dX12_status_22 : decode cX12_status 22 = .ok (.ireturn, 1) := by decide +kernel
