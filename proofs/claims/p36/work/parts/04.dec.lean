theorem dX2_gather_0 : decode cX2_gather 0 = .ok (.aload_n 0, 1) := by decide +kernel
theorem dX2_gather_1 : decode cX2_gather 1 = .ok (.iconst 0, 1) := by decide +kernel
theorem dX2_gather_2 : decode cX2_gather 2 = .ok (.putfield 21, 3) := by decide +kernel
theorem dX2_gather_5 : decode cX2_gather 5 = .ok (.aload_n 0, 1) := by decide +kernel
theorem dX2_gather_6 : decode cX2_gather 6 = .ok (.iconst 0, 1) := by decide +kernel
theorem dX2_gather_7 : decode cX2_gather 7 = .ok (.putfield 25, 3) := by decide +kernel
theorem dX2_gather_10 : decode cX2_gather 10 = .ok (.iconst 0, 1) := by decide +kernel
theorem dX2_gather_11 : decode cX2_gather 11 = .ok (.istore_n 2, 1) := by decide +kernel
theorem dX2_gather_12 : decode cX2_gather 12 = .ok (.iload_n 2, 1) := by decide +kernel
theorem dX2_gather_13 : decode cX2_gather 13 = .ok (.aload_n 1, 1) := by decide +kernel
theorem dX2_gather_14 : decode cX2_gather 14 = .ok (.getfield 29, 3) := by decide +kernel
theorem dX2_gather_17 : decode cX2_gather 17 = .ok (.if_icmp .ge 87, 3) := by decide +kernel
theorem dX2_gather_20 : decode cX2_gather 20 = .ok (.aload_n 0, 1) := by decide +kernel
theorem dX2_gather_21 : decode cX2_gather 21 = .ok (.getfield 9, 3) := by decide +kernel
theorem dX2_gather_24 : decode cX2_gather 24 = .ok (.iload_n 2, 1) := by decide +kernel
theorem dX2_gather_25 : decode cX2_gather 25 = .ok (.aload_n 0, 1) := by decide +kernel
theorem dX2_gather_26 : decode cX2_gather 26 = .ok (.aload_n 1, 1) := by decide +kernel
theorem dX2_gather_27 : decode cX2_gather 27 = .ok (.iload_n 2, 1) := by decide +kernel
theorem dX2_gather_28 : decode cX2_gather 28 = .ok (.invokevirtual 32, 3) := by decide +kernel
theorem dX2_gather_31 : decode cX2_gather 31 = .ok (.iastore, 1) := by decide +kernel
theorem dX2_gather_32 : decode cX2_gather 32 = .ok (.aload_n 0, 1) := by decide +kernel
theorem dX2_gather_33 : decode cX2_gather 33 = .ok (.getfield 9, 3) := by decide +kernel
theorem dX2_gather_36 : decode cX2_gather 36 = .ok (.iload_n 2, 1) := by decide +kernel
theorem dX2_gather_37 : decode cX2_gather 37 = .ok (.iaload, 1) := by decide +kernel
theorem dX2_gather_38 : decode cX2_gather 38 = .ok (.iconst (-1), 1) := by decide +kernel
theorem dX2_gather_39 : decode cX2_gather 39 = .ok (.if_icmp .ne 43, 3) := by decide +kernel
theorem dX2_gather_42 : decode cX2_gather 42 = .ok (.aload_n 0, 1) := by decide +kernel
theorem dX2_gather_43 : decode cX2_gather 43 = .ok (.getfield 9, 3) := by decide +kernel
theorem dX2_gather_46 : decode cX2_gather 46 = .ok (.iload_n 2, 1) := by decide +kernel
theorem dX2_gather_47 : decode cX2_gather 47 = .ok (.aload_n 0, 1) := by decide +kernel
theorem dX2_gather_48 : decode cX2_gather 48 = .ok (.getfield 21, 3) := by decide +kernel
theorem dX2_gather_51 : decode cX2_gather 51 = .ok (.iastore, 1) := by decide +kernel
theorem dX2_gather_52 : decode cX2_gather 52 = .ok (.aload_n 0, 1) := by decide +kernel
theorem dX2_gather_53 : decode cX2_gather 53 = .ok (.getfield 18, 3) := by decide +kernel
theorem dX2_gather_56 : decode cX2_gather 56 = .ok (.aload_n 0, 1) := by decide +kernel
theorem dX2_gather_57 : decode cX2_gather 57 = .ok (.getfield 21, 3) := by decide +kernel
theorem dX2_gather_60 : decode cX2_gather 60 = .ok (.iload_n 2, 1) := by decide +kernel
theorem dX2_gather_61 : decode cX2_gather 61 = .ok (.iastore, 1) := by decide +kernel
theorem dX2_gather_62 : decode cX2_gather 62 = .ok (.aload_n 0, 1) := by decide +kernel
theorem dX2_gather_63 : decode cX2_gather 63 = .ok (.getfield 15, 3) := by decide +kernel
theorem dX2_gather_66 : decode cX2_gather 66 = .ok (.aload_n 0, 1) := by decide +kernel
theorem dX2_gather_67 : decode cX2_gather 67 = .ok (.getfield 21, 3) := by decide +kernel
theorem dX2_gather_70 : decode cX2_gather 70 = .ok (.iconst (-1), 1) := by decide +kernel
theorem dX2_gather_71 : decode cX2_gather 71 = .ok (.iastore, 1) := by decide +kernel
theorem dX2_gather_72 : decode cX2_gather 72 = .ok (.aload_n 0, 1) := by decide +kernel
theorem dX2_gather_73 : decode cX2_gather 73 = .ok (.dup, 1) := by decide +kernel
theorem dX2_gather_74 : decode cX2_gather 74 = .ok (.getfield 21, 3) := by decide +kernel
theorem dX2_gather_77 : decode cX2_gather 77 = .ok (.iconst 1, 1) := by decide +kernel
theorem dX2_gather_78 : decode cX2_gather 78 = .ok (.iadd, 1) := by decide +kernel
theorem dX2_gather_79 : decode cX2_gather 79 = .ok (.putfield 21, 3) := by decide +kernel
theorem dX2_gather_82 : decode cX2_gather 82 = .ok (.aload_n 0, 1) := by decide +kernel
theorem dX2_gather_83 : decode cX2_gather 83 = .ok (.aload_n 0, 1) := by decide +kernel
theorem dX2_gather_84 : decode cX2_gather 84 = .ok (.getfield 9, 3) := by decide +kernel
theorem dX2_gather_87 : decode cX2_gather 87 = .ok (.iload_n 2, 1) := by decide +kernel
theorem dX2_gather_88 : decode cX2_gather 88 = .ok (.iaload, 1) := by decide +kernel
theorem dX2_gather_89 : decode cX2_gather 89 = .ok (.aload_n 1, 1) := by decide +kernel
theorem dX2_gather_90 : decode cX2_gather 90 = .ok (.getfield 36, 3) := by decide +kernel
theorem dX2_gather_93 : decode cX2_gather 93 = .ok (.iload_n 2, 1) := by decide +kernel
theorem dX2_gather_94 : decode cX2_gather 94 = .ok (.iaload, 1) := by decide +kernel
theorem dX2_gather_95 : decode cX2_gather 95 = .ok (.invokevirtual 37, 3) := by decide +kernel
theorem dX2_gather_98 : decode cX2_gather 98 = .ok (.iinc 2 1, 3) := by decide +kernel
theorem dX2_gather_101 : decode cX2_gather 101 = .ok (.goto (-89), 3) := by decide +kernel
theorem dX2_gather_104 : decode cX2_gather 104 = .ok (.aload_n 0, 1) := by decide +kernel
theorem dX2_gather_105 : decode cX2_gather 105 = .ok (.iconst 0, 1) := by decide +kernel
theorem dX2_gather_106 : decode cX2_gather 106 = .ok (.putfield 41, 3) := by decide +kernel
theorem dX2_gather_109 : decode cX2_gather 109 = .ok (.iconst 0, 1) := by decide +kernel
theorem dX2_gather_110 : decode cX2_gather 110 = .ok (.istore_n 2, 1) := by decide +kernel
theorem dX2_gather_111 : decode cX2_gather 111 = .ok (.iload_n 2, 1) := by decide +kernel
theorem dX2_gather_112 : decode cX2_gather 112 = .ok (.aload_n 0, 1) := by decide +kernel
theorem dX2_gather_113 : decode cX2_gather 113 = .ok (.getfield 21, 3) := by decide +kernel
theorem dX2_gather_116 : decode cX2_gather 116 = .ok (.if_icmp .ge 33, 3) := by decide +kernel
theorem dX2_gather_119 : decode cX2_gather 119 = .ok (.aload_n 0, 1) := by decide +kernel
theorem dX2_gather_120 : decode cX2_gather 120 = .ok (.dup, 1) := by decide +kernel
theorem dX2_gather_121 : decode cX2_gather 121 = .ok (.getfield 41, 3) := by decide +kernel
theorem dX2_gather_124 : decode cX2_gather 124 = .ok (.aload_n 0, 1) := by decide +kernel
theorem dX2_gather_125 : decode cX2_gather 125 = .ok (.getfield 15, 3) := by decide +kernel
theorem dX2_gather_128 : decode cX2_gather 128 = .ok (.iload_n 2, 1) := by decide +kernel
theorem dX2_gather_129 : decode cX2_gather 129 = .ok (.iaload, 1) := by decide +kernel
theorem dX2_gather_130 : decode cX2_gather 130 = .ok (.iconst (-1), 1) := by decide +kernel
theorem dX2_gather_131 : decode cX2_gather 131 = .ok (.if_icmp .ne 7, 3) := by decide +kernel
theorem dX2_gather_134 : decode cX2_gather 134 = .ok (.iconst 1, 1) := by decide +kernel
theorem dX2_gather_135 : decode cX2_gather 135 = .ok (.goto 4, 3) := by decide +kernel
theorem dX2_gather_138 : decode cX2_gather 138 = .ok (.iconst 0, 1) := by decide +kernel
theorem dX2_gather_139 : decode cX2_gather 139 = .ok (.iadd, 1) := by decide +kernel
theorem dX2_gather_140 : decode cX2_gather 140 = .ok (.putfield 41, 3) := by decide +kernel
theorem dX2_gather_143 : decode cX2_gather 143 = .ok (.iinc 2 1, 3) := by decide +kernel
theorem dX2_gather_146 : decode cX2_gather 146 = .ok (.goto (-35), 3) := by decide +kernel
theorem dX2_gather_149 : decode cX2_gather 149 = .ok (.return_, 1) := by decide +kernel
theorem dX2_earlierGroup_0 : decode cX2_earlierGroup 0 = .ok (.iconst 0, 1) := by decide +kernel
theorem dX2_earlierGroup_1 : decode cX2_earlierGroup 1 = .ok (.istore_n 3, 1) := by decide +kernel
theorem dX2_earlierGroup_2 : decode cX2_earlierGroup 2 = .ok (.iload_n 3, 1) := by decide +kernel
theorem dX2_earlierGroup_3 : decode cX2_earlierGroup 3 = .ok (.iload_n 2, 1) := by decide +kernel
theorem dX2_earlierGroup_4 : decode cX2_earlierGroup 4 = .ok (.if_icmp .ge 31, 3) := by decide +kernel
theorem dX2_earlierGroup_7 : decode cX2_earlierGroup 7 = .ok (.aload_n 1, 1) := by decide +kernel
theorem dX2_earlierGroup_8 : decode cX2_earlierGroup 8 = .ok (.getfield 44, 3) := by decide +kernel
theorem dX2_earlierGroup_11 : decode cX2_earlierGroup 11 = .ok (.iload_n 3, 1) := by decide +kernel
theorem dX2_earlierGroup_12 : decode cX2_earlierGroup 12 = .ok (.iaload, 1) := by decide +kernel
theorem dX2_earlierGroup_13 : decode cX2_earlierGroup 13 = .ok (.aload_n 1, 1) := by decide +kernel
theorem dX2_earlierGroup_14 : decode cX2_earlierGroup 14 = .ok (.getfield 44, 3) := by decide +kernel
theorem dX2_earlierGroup_17 : decode cX2_earlierGroup 17 = .ok (.iload_n 2, 1) := by decide +kernel
theorem dX2_earlierGroup_18 : decode cX2_earlierGroup 18 = .ok (.iaload, 1) := by decide +kernel
theorem dX2_earlierGroup_19 : decode cX2_earlierGroup 19 = .ok (.if_icmp .ne 10, 3) := by decide +kernel
theorem dX2_earlierGroup_22 : decode cX2_earlierGroup 22 = .ok (.aload_n 0, 1) := by decide +kernel
theorem dX2_earlierGroup_23 : decode cX2_earlierGroup 23 = .ok (.getfield 9, 3) := by decide +kernel
theorem dX2_earlierGroup_26 : decode cX2_earlierGroup 26 = .ok (.iload_n 3, 1) := by decide +kernel
theorem dX2_earlierGroup_27 : decode cX2_earlierGroup 27 = .ok (.iaload, 1) := by decide +kernel
theorem dX2_earlierGroup_28 : decode cX2_earlierGroup 28 = .ok (.ireturn, 1) := by decide +kernel
theorem dX2_earlierGroup_29 : decode cX2_earlierGroup 29 = .ok (.iinc 3 1, 3) := by decide +kernel
theorem dX2_earlierGroup_32 : decode cX2_earlierGroup 32 = .ok (.goto (-30), 3) := by decide +kernel
theorem dX2_earlierGroup_35 : decode cX2_earlierGroup 35 = .ok (.iconst (-1), 1) := by decide +kernel
theorem dX2_earlierGroup_36 : decode cX2_earlierGroup 36 = .ok (.ireturn, 1) := by decide +kernel
theorem dX2_fix_0 : decode cX2_fix 0 = .ok (.iload_n 2, 1) := by decide +kernel
theorem dX2_fix_1 : decode cX2_fix 1 = .ok (.iconst (-1), 1) := by decide +kernel
theorem dX2_fix_2 : decode cX2_fix 2 = .ok (.if_icmp .eq 13, 3) := by decide +kernel
theorem dX2_fix_5 : decode cX2_fix 5 = .ok (.aload_n 0, 1) := by decide +kernel
theorem dX2_fix_6 : decode cX2_fix 6 = .ok (.getfield 15, 3) := by decide +kernel
theorem dX2_fix_9 : decode cX2_fix 9 = .ok (.iload_n 1, 1) := by decide +kernel
theorem dX2_fix_10 : decode cX2_fix 10 = .ok (.iaload, 1) := by decide +kernel
theorem dX2_fix_11 : decode cX2_fix 11 = .ok (.iload_n 2, 1) := by decide +kernel
theorem dX2_fix_12 : decode cX2_fix 12 = .ok (.if_icmp .ne 4, 3) := by decide +kernel
theorem dX2_fix_15 : decode cX2_fix 15 = .ok (.return_, 1) := by decide +kernel
theorem dX2_fix_16 : decode cX2_fix 16 = .ok (.aload_n 0, 1) := by decide +kernel
theorem dX2_fix_17 : decode cX2_fix 17 = .ok (.aload_n 0, 1) := by decide +kernel
theorem dX2_fix_18 : decode cX2_fix 18 = .ok (.getfield 25, 3) := by decide +kernel
theorem dX2_fix_21 : decode cX2_fix 21 = .ok (.ifCond .ne 13, 3) := by decide +kernel
theorem dX2_fix_24 : decode cX2_fix 24 = .ok (.aload_n 0, 1) := by decide +kernel
theorem dX2_fix_25 : decode cX2_fix 25 = .ok (.getfield 15, 3) := by decide +kernel
theorem dX2_fix_28 : decode cX2_fix 28 = .ok (.iload_n 1, 1) := by decide +kernel
theorem dX2_fix_29 : decode cX2_fix 29 = .ok (.iaload, 1) := by decide +kernel
theorem dX2_fix_30 : decode cX2_fix 30 = .ok (.iconst (-1), 1) := by decide +kernel
theorem dX2_fix_31 : decode cX2_fix 31 = .ok (.if_icmp .eq 7, 3) := by decide +kernel
theorem dX2_fix_34 : decode cX2_fix 34 = .ok (.iconst 1, 1) := by decide +kernel
theorem dX2_fix_35 : decode cX2_fix 35 = .ok (.goto 4, 3) := by decide +kernel
theorem dX2_fix_38 : decode cX2_fix 38 = .ok (.iconst 0, 1) := by decide +kernel
theorem dX2_fix_39 : decode cX2_fix 39 = .ok (.putfield 25, 3) := by decide +kernel
theorem dX2_fix_42 : decode cX2_fix 42 = .ok (.aload_n 0, 1) := by decide +kernel
theorem dX2_fix_43 : decode cX2_fix 43 = .ok (.getfield 15, 3) := by decide +kernel
theorem dX2_fix_46 : decode cX2_fix 46 = .ok (.iload_n 1, 1) := by decide +kernel
theorem dX2_fix_47 : decode cX2_fix 47 = .ok (.aload_n 0, 1) := by decide +kernel
theorem dX2_fix_48 : decode cX2_fix 48 = .ok (.getfield 15, 3) := by decide +kernel
theorem dX2_fix_51 : decode cX2_fix 51 = .ok (.iload_n 1, 1) := by decide +kernel
theorem dX2_fix_52 : decode cX2_fix 52 = .ok (.iaload, 1) := by decide +kernel
theorem dX2_fix_53 : decode cX2_fix 53 = .ok (.iconst (-1), 1) := by decide +kernel
theorem dX2_fix_54 : decode cX2_fix 54 = .ok (.if_icmp .ne 7, 3) := by decide +kernel
theorem dX2_fix_57 : decode cX2_fix 57 = .ok (.iload_n 2, 1) := by decide +kernel
theorem dX2_fix_58 : decode cX2_fix 58 = .ok (.goto 5, 3) := by decide +kernel
theorem dX2_fix_61 : decode cX2_fix 61 = .ok (.bipush (-2), 2) := by decide +kernel
theorem dX2_fix_63 : decode cX2_fix 63 = .ok (.iastore, 1) := by decide +kernel
theorem dX2_fix_64 : decode cX2_fix 64 = .ok (.return_, 1) := by decide +kernel
theorem dX2_isFree_0 : decode cX2_isFree 0 = .ok (.iload_n 1, 1) := by decide +kernel
theorem dX2_isFree_1 : decode cX2_isFree 1 = .ok (.ifCond .lt 25, 3) := by decide +kernel
theorem dX2_isFree_4 : decode cX2_isFree 4 = .ok (.iload_n 1, 1) := by decide +kernel
theorem dX2_isFree_5 : decode cX2_isFree 5 = .ok (.aload_n 0, 1) := by decide +kernel
theorem dX2_isFree_6 : decode cX2_isFree 6 = .ok (.getfield 21, 3) := by decide +kernel
theorem dX2_isFree_9 : decode cX2_isFree 9 = .ok (.if_icmp .ge 17, 3) := by decide +kernel
theorem dX2_isFree_12 : decode cX2_isFree 12 = .ok (.aload_n 0, 1) := by decide +kernel
theorem dX2_isFree_13 : decode cX2_isFree 13 = .ok (.getfield 15, 3) := by decide +kernel
theorem dX2_isFree_16 : decode cX2_isFree 16 = .ok (.iload_n 1, 1) := by decide +kernel
theorem dX2_isFree_17 : decode cX2_isFree 17 = .ok (.iaload, 1) := by decide +kernel
theorem dX2_isFree_18 : decode cX2_isFree 18 = .ok (.iconst (-1), 1) := by decide +kernel
theorem dX2_isFree_19 : decode cX2_isFree 19 = .ok (.if_icmp .ne 7, 3) := by decide +kernel
theorem dX2_isFree_22 : decode cX2_isFree 22 = .ok (.iconst 1, 1) := by decide +kernel
theorem dX2_isFree_23 : decode cX2_isFree 23 = .ok (.goto 4, 3) := by decide +kernel
theorem dX2_isFree_26 : decode cX2_isFree 26 = .ok (.iconst 0, 1) := by decide +kernel
theorem dX2_isFree_27 : decode cX2_isFree 27 = .ok (.ireturn, 1) := by decide +kernel
theorem dX2_leaderOf_0 : decode cX2_leaderOf 0 = .ok (.iload_n 1, 1) := by decide +kernel
theorem dX2_leaderOf_1 : decode cX2_leaderOf 1 = .ok (.ifCond .lt 20, 3) := by decide +kernel
theorem dX2_leaderOf_4 : decode cX2_leaderOf 4 = .ok (.iload_n 1, 1) := by decide +kernel
theorem dX2_leaderOf_5 : decode cX2_leaderOf 5 = .ok (.aload_n 0, 1) := by decide +kernel
theorem dX2_leaderOf_6 : decode cX2_leaderOf 6 = .ok (.getfield 21, 3) := by decide +kernel
theorem dX2_leaderOf_9 : decode cX2_leaderOf 9 = .ok (.if_icmp .ge 12, 3) := by decide +kernel
theorem dX2_leaderOf_12 : decode cX2_leaderOf 12 = .ok (.aload_n 0, 1) := by decide +kernel
theorem dX2_leaderOf_13 : decode cX2_leaderOf 13 = .ok (.getfield 18, 3) := by decide +kernel
theorem dX2_leaderOf_16 : decode cX2_leaderOf 16 = .ok (.iload_n 1, 1) := by decide +kernel
theorem dX2_leaderOf_17 : decode cX2_leaderOf 17 = .ok (.iaload, 1) := by decide +kernel
theorem dX2_leaderOf_18 : decode cX2_leaderOf 18 = .ok (.goto 4, 3) := by decide +kernel
theorem dX2_leaderOf_21 : decode cX2_leaderOf 21 = .ok (.iconst (-1), 1) := by decide +kernel
theorem dX2_leaderOf_22 : decode cX2_leaderOf 22 = .ok (.ireturn, 1) := by decide +kernel
theorem dX2_fillFree_0 : decode cX2_fillFree 0 = .ok (.iconst 0, 1) := by decide +kernel
theorem dX2_fillFree_1 : decode cX2_fillFree 1 = .ok (.istore_n 3, 1) := by decide +kernel
theorem dX2_fillFree_2 : decode cX2_fillFree 2 = .ok (.iload_n 3, 1) := by decide +kernel
theorem dX2_fillFree_3 : decode cX2_fillFree 3 = .ok (.aload_n 0, 1) := by decide +kernel
theorem dX2_fillFree_4 : decode cX2_fillFree 4 = .ok (.getfield 21, 3) := by decide +kernel
theorem dX2_fillFree_7 : decode cX2_fillFree 7 = .ok (.if_icmp .ge 38, 3) := by decide +kernel
theorem dX2_fillFree_10 : decode cX2_fillFree 10 = .ok (.iload_n 3, 1) := by decide +kernel
theorem dX2_fillFree_11 : decode cX2_fillFree 11 = .ok (.aload_n 1, 1) := by decide +kernel
theorem dX2_fillFree_12 : decode cX2_fillFree 12 = .ok (.arraylength, 1) := by decide +kernel
theorem dX2_fillFree_13 : decode cX2_fillFree 13 = .ok (.if_icmp .ge 32, 3) := by decide +kernel
theorem dX2_fillFree_16 : decode cX2_fillFree 16 = .ok (.aload_n 1, 1) := by decide +kernel
theorem dX2_fillFree_17 : decode cX2_fillFree 17 = .ok (.iload_n 3, 1) := by decide +kernel
theorem dX2_fillFree_18 : decode cX2_fillFree 18 = .ok (.aload_n 0, 1) := by decide +kernel
theorem dX2_fillFree_19 : decode cX2_fillFree 19 = .ok (.getfield 15, 3) := by decide +kernel
theorem dX2_fillFree_22 : decode cX2_fillFree 22 = .ok (.iload_n 3, 1) := by decide +kernel
theorem dX2_fillFree_23 : decode cX2_fillFree 23 = .ok (.iaload, 1) := by decide +kernel
theorem dX2_fillFree_24 : decode cX2_fillFree 24 = .ok (.iconst (-1), 1) := by decide +kernel
theorem dX2_fillFree_25 : decode cX2_fillFree 25 = .ok (.if_icmp .ne 7, 3) := by decide +kernel
theorem dX2_fillFree_28 : decode cX2_fillFree 28 = .ok (.iload_n 2, 1) := by decide +kernel
theorem dX2_fillFree_29 : decode cX2_fillFree 29 = .ok (.goto 9, 3) := by decide +kernel
theorem dX2_fillFree_32 : decode cX2_fillFree 32 = .ok (.aload_n 0, 1) := by decide +kernel
theorem dX2_fillFree_33 : decode cX2_fillFree 33 = .ok (.getfield 15, 3) := by decide +kernel
theorem dX2_fillFree_36 : decode cX2_fillFree 36 = .ok (.iload_n 3, 1) := by decide +kernel
theorem dX2_fillFree_37 : decode cX2_fillFree 37 = .ok (.iaload, 1) := by decide +kernel
theorem dX2_fillFree_38 : decode cX2_fillFree 38 = .ok (.iastore, 1) := by decide +kernel
theorem dX2_fillFree_39 : decode cX2_fillFree 39 = .ok (.iinc 3 1, 3) := by decide +kernel
theorem dX2_fillFree_42 : decode cX2_fillFree 42 = .ok (.goto (-40), 3) := by decide +kernel
theorem dX2_fillFree_45 : decode cX2_fillFree 45 = .ok (.return_, 1) := by decide +kernel
theorem dX4_prepare_0 : decode cX4_prepare 0 = .ok (.aload_n 0, 1) := by decide +kernel
theorem dX4_prepare_1 : decode cX4_prepare 1 = .ok (.getfield 36, 3) := by decide +kernel
theorem dX4_prepare_4 : decode cX4_prepare 4 = .ok (.bipush 14, 2) := by decide +kernel
theorem dX4_prepare_6 : decode cX4_prepare 6 = .ok (.if_icmp .ge 40, 3) := by decide +kernel
theorem dX4_prepare_9 : decode cX4_prepare 9 = .ok (.iload_n 1, 1) := by decide +kernel
theorem dX4_prepare_10 : decode cX4_prepare 10 = .ok (.ifCond .eq 8, 3) := by decide +kernel
theorem dX4_prepare_13 : decode cX4_prepare 13 = .ok (.iload_n 1, 1) := by decide +kernel
theorem dX4_prepare_14 : decode cX4_prepare 14 = .ok (.iconst 1, 1) := by decide +kernel
theorem dX4_prepare_15 : decode cX4_prepare 15 = .ok (.if_icmp .ne 31, 3) := by decide +kernel
theorem dX4_prepare_18 : decode cX4_prepare 18 = .ok (.aload_n 0, 1) := by decide +kernel
theorem dX4_prepare_19 : decode cX4_prepare 19 = .ok (.getfield 30, 3) := by decide +kernel
theorem dX4_prepare_22 : decode cX4_prepare 22 = .ok (.iconst 2, 1) := by decide +kernel
theorem dX4_prepare_23 : decode cX4_prepare 23 = .ok (.aload_n 0, 1) := by decide +kernel
theorem dX4_prepare_24 : decode cX4_prepare 24 = .ok (.getfield 36, 3) := by decide +kernel
theorem dX4_prepare_27 : decode cX4_prepare 27 = .ok (.imul, 1) := by decide +kernel
theorem dX4_prepare_28 : decode cX4_prepare 28 = .ok (.iload_n 1, 1) := by decide +kernel
theorem dX4_prepare_29 : decode cX4_prepare 29 = .ok (.iadd, 1) := by decide +kernel
theorem dX4_prepare_30 : decode cX4_prepare 30 = .ok (.iload_n 2, 1) := by decide +kernel
theorem dX4_prepare_31 : decode cX4_prepare 31 = .ok (.iastore, 1) := by decide +kernel
theorem dX4_prepare_32 : decode cX4_prepare 32 = .ok (.aload_n 0, 1) := by decide +kernel
theorem dX4_prepare_33 : decode cX4_prepare 33 = .ok (.getfield 33, 3) := by decide +kernel
theorem dX4_prepare_36 : decode cX4_prepare 36 = .ok (.iconst 2, 1) := by decide +kernel
theorem dX4_prepare_37 : decode cX4_prepare 37 = .ok (.aload_n 0, 1) := by decide +kernel
theorem dX4_prepare_38 : decode cX4_prepare 38 = .ok (.getfield 36, 3) := by decide +kernel
theorem dX4_prepare_41 : decode cX4_prepare 41 = .ok (.imul, 1) := by decide +kernel
theorem dX4_prepare_42 : decode cX4_prepare 42 = .ok (.iload_n 1, 1) := by decide +kernel
theorem dX4_prepare_43 : decode cX4_prepare 43 = .ok (.iadd, 1) := by decide +kernel
theorem dX4_prepare_44 : decode cX4_prepare 44 = .ok (.iload_n 3, 1) := by decide +kernel
theorem dX4_prepare_45 : decode cX4_prepare 45 = .ok (.iastore, 1) := by decide +kernel
theorem dX4_prepare_46 : decode cX4_prepare 46 = .ok (.return_, 1) := by decide +kernel
theorem dX4_add_0 : decode cX4_add 0 = .ok (.aload_n 0, 1) := by decide +kernel
theorem dX4_add_1 : decode cX4_add 1 = .ok (.getfield 36, 3) := by decide +kernel
theorem dX4_add_4 : decode cX4_add 4 = .ok (.bipush 14, 2) := by decide +kernel
theorem dX4_add_6 : decode cX4_add 6 = .ok (.if_icmp .lt 4, 3) := by decide +kernel
theorem dX4_add_9 : decode cX4_add 9 = .ok (.return_, 1) := by decide +kernel
theorem dX4_add_10 : decode cX4_add 10 = .ok (.aload_n 0, 1) := by decide +kernel
theorem dX4_add_11 : decode cX4_add 11 = .ok (.getfield 9, 3) := by decide +kernel
theorem dX4_add_14 : decode cX4_add 14 = .ok (.aload_n 0, 1) := by decide +kernel
theorem dX4_add_15 : decode cX4_add 15 = .ok (.getfield 36, 3) := by decide +kernel
theorem dX4_add_18 : decode cX4_add 18 = .ok (.iload_n 1, 1) := by decide +kernel
theorem dX4_add_19 : decode cX4_add 19 = .ok (.iastore, 1) := by decide +kernel
theorem dX4_add_20 : decode cX4_add 20 = .ok (.aload_n 0, 1) := by decide +kernel
theorem dX4_add_21 : decode cX4_add 21 = .ok (.getfield 15, 3) := by decide +kernel
theorem dX4_add_24 : decode cX4_add 24 = .ok (.aload_n 0, 1) := by decide +kernel
theorem dX4_add_25 : decode cX4_add 25 = .ok (.getfield 36, 3) := by decide +kernel
theorem dX4_add_28 : decode cX4_add 28 = .ok (.iload_n 2, 1) := by decide +kernel
theorem dX4_add_29 : decode cX4_add 29 = .ok (.iastore, 1) := by decide +kernel
theorem dX4_add_30 : decode cX4_add 30 = .ok (.aload_n 0, 1) := by decide +kernel
theorem dX4_add_31 : decode cX4_add 31 = .ok (.getfield 18, 3) := by decide +kernel
theorem dX4_add_34 : decode cX4_add 34 = .ok (.aload_n 0, 1) := by decide +kernel
theorem dX4_add_35 : decode cX4_add 35 = .ok (.getfield 36, 3) := by decide +kernel
theorem dX4_add_38 : decode cX4_add 38 = .ok (.iconst (-1), 1) := by decide +kernel
theorem dX4_add_39 : decode cX4_add 39 = .ok (.iastore, 1) := by decide +kernel
theorem dX4_add_40 : decode cX4_add 40 = .ok (.aload_n 0, 1) := by decide +kernel
theorem dX4_add_41 : decode cX4_add 41 = .ok (.getfield 21, 3) := by decide +kernel
theorem dX4_add_44 : decode cX4_add 44 = .ok (.aload_n 0, 1) := by decide +kernel
theorem dX4_add_45 : decode cX4_add 45 = .ok (.getfield 36, 3) := by decide +kernel
theorem dX4_add_48 : decode cX4_add 48 = .ok (.iconst (-1), 1) := by decide +kernel
theorem dX4_add_49 : decode cX4_add 49 = .ok (.iastore, 1) := by decide +kernel
theorem dX4_add_50 : decode cX4_add 50 = .ok (.aload_n 0, 1) := by decide +kernel
theorem dX4_add_51 : decode cX4_add 51 = .ok (.getfield 27, 3) := by decide +kernel
theorem dX4_add_54 : decode cX4_add 54 = .ok (.aload_n 0, 1) := by decide +kernel
theorem dX4_add_55 : decode cX4_add 55 = .ok (.getfield 36, 3) := by decide +kernel
theorem dX4_add_58 : decode cX4_add 58 = .ok (.aload_n 0, 1) := by decide +kernel
theorem dX4_add_59 : decode cX4_add 59 = .ok (.getfield 36, 3) := by decide +kernel
theorem dX4_add_62 : decode cX4_add 62 = .ok (.iastore, 1) := by decide +kernel
theorem dX4_add_63 : decode cX4_add 63 = .ok (.aload_n 0, 1) := by decide +kernel
theorem dX4_add_64 : decode cX4_add 64 = .ok (.getfield 24, 3) := by decide +kernel
theorem dX4_add_67 : decode cX4_add 67 = .ok (.aload_n 0, 1) := by decide +kernel
theorem dX4_add_68 : decode cX4_add 68 = .ok (.getfield 36, 3) := by decide +kernel
theorem dX4_add_71 : decode cX4_add 71 = .ok (.iload_n 2, 1) := by decide +kernel
theorem dX4_add_72 : decode cX4_add 72 = .ok (.ifCond .ne 7, 3) := by decide +kernel
theorem dX4_add_75 : decode cX4_add 75 = .ok (.iconst 0, 1) := by decide +kernel
theorem dX4_add_76 : decode cX4_add 76 = .ok (.goto 18, 3) := by decide +kernel
theorem dX4_add_79 : decode cX4_add 79 = .ok (.iconst 1, 1) := by decide +kernel
theorem dX4_add_80 : decode cX4_add 80 = .ok (.aload_n 0, 1) := by decide +kernel
theorem dX4_add_81 : decode cX4_add 81 = .ok (.iconst 0, 1) := by decide +kernel
theorem dX4_add_82 : decode cX4_add 82 = .ok (.invokevirtual 40, 3) := by decide +kernel
theorem dX4_add_85 : decode cX4_add 85 = .ok (.aload_n 0, 1) := by decide +kernel
theorem dX4_add_86 : decode cX4_add 86 = .ok (.iconst 1, 1) := by decide +kernel
theorem dX4_add_87 : decode cX4_add 87 = .ok (.invokevirtual 40, 3) := by decide +kernel
theorem dX4_add_90 : decode cX4_add 90 = .ok (.invokestatic 44, 3) := by decide +kernel
theorem dX4_add_93 : decode cX4_add 93 = .ok (.iadd, 1) := by decide +kernel
theorem dX4_add_94 : decode cX4_add 94 = .ok (.iastore, 1) := by decide +kernel
theorem dX4_add_95 : decode cX4_add 95 = .ok (.aload_n 0, 1) := by decide +kernel
theorem dX4_add_96 : decode cX4_add 96 = .ok (.dup, 1) := by decide +kernel
theorem dX4_add_97 : decode cX4_add 97 = .ok (.getfield 50, 3) := by decide +kernel
theorem dX4_add_100 : decode cX4_add 100 = .ok (.iload_n 2, 1) := by decide +kernel
theorem dX4_add_101 : decode cX4_add 101 = .ok (.ifCond .ne 7, 3) := by decide +kernel
theorem dX4_add_104 : decode cX4_add 104 = .ok (.iconst 1, 1) := by decide +kernel
theorem dX4_add_105 : decode cX4_add 105 = .ok (.goto 4, 3) := by decide +kernel
theorem dX4_add_108 : decode cX4_add 108 = .ok (.iconst 0, 1) := by decide +kernel
theorem dX4_add_109 : decode cX4_add 109 = .ok (.iadd, 1) := by decide +kernel
theorem dX4_add_110 : decode cX4_add 110 = .ok (.putfield 50, 3) := by decide +kernel
theorem dX4_add_113 : decode cX4_add 113 = .ok (.aload_n 0, 1) := by decide +kernel
theorem dX4_add_114 : decode cX4_add 114 = .ok (.dup, 1) := by decide +kernel
theorem dX4_add_115 : decode cX4_add 115 = .ok (.getfield 36, 3) := by decide +kernel
theorem dX4_add_118 : decode cX4_add 118 = .ok (.iconst 1, 1) := by decide +kernel
theorem dX4_add_119 : decode cX4_add 119 = .ok (.iadd, 1) := by decide +kernel
theorem dX4_add_120 : decode cX4_add 120 = .ok (.putfield 36, 3) := by decide +kernel
theorem dX4_add_123 : decode cX4_add 123 = .ok (.return_, 1) := by decide +kernel
theorem dX4_letsOf_0 : decode cX4_letsOf 0 = .ok (.aload_n 0, 1) := by decide +kernel
theorem dX4_letsOf_1 : decode cX4_letsOf 1 = .ok (.getfield 30, 3) := by decide +kernel
theorem dX4_letsOf_4 : decode cX4_letsOf 4 = .ok (.iconst 2, 1) := by decide +kernel
theorem dX4_letsOf_5 : decode cX4_letsOf 5 = .ok (.aload_n 0, 1) := by decide +kernel
theorem dX4_letsOf_6 : decode cX4_letsOf 6 = .ok (.getfield 36, 3) := by decide +kernel
theorem dX4_letsOf_9 : decode cX4_letsOf 9 = .ok (.imul, 1) := by decide +kernel
theorem dX4_letsOf_10 : decode cX4_letsOf 10 = .ok (.iload_n 1, 1) := by decide +kernel
theorem dX4_letsOf_11 : decode cX4_letsOf 11 = .ok (.iadd, 1) := by decide +kernel
theorem dX4_letsOf_12 : decode cX4_letsOf 12 = .ok (.iaload, 1) := by decide +kernel
theorem dX4_letsOf_13 : decode cX4_letsOf 13 = .ok (.istore_n 2, 1) := by decide +kernel
theorem dX4_letsOf_14 : decode cX4_letsOf 14 = .ok (.iload_n 2, 1) := by decide +kernel
theorem dX4_letsOf_15 : decode cX4_letsOf 15 = .ok (.ifCond .lt 20, 3) := by decide +kernel
theorem dX4_letsOf_18 : decode cX4_letsOf 18 = .ok (.iload_n 2, 1) := by decide +kernel
theorem dX4_letsOf_19 : decode cX4_letsOf 19 = .ok (.aload_n 0, 1) := by decide +kernel
theorem dX4_letsOf_20 : decode cX4_letsOf 20 = .ok (.getfield 36, 3) := by decide +kernel
theorem dX4_letsOf_23 : decode cX4_letsOf 23 = .ok (.if_icmp .ge 12, 3) := by decide +kernel
theorem dX4_letsOf_26 : decode cX4_letsOf 26 = .ok (.aload_n 0, 1) := by decide +kernel
theorem dX4_letsOf_27 : decode cX4_letsOf 27 = .ok (.getfield 24, 3) := by decide +kernel
theorem dX4_letsOf_30 : decode cX4_letsOf 30 = .ok (.iload_n 2, 1) := by decide +kernel
theorem dX4_letsOf_31 : decode cX4_letsOf 31 = .ok (.iaload, 1) := by decide +kernel
theorem dX4_letsOf_32 : decode cX4_letsOf 32 = .ok (.goto 4, 3) := by decide +kernel
theorem dX4_letsOf_35 : decode cX4_letsOf 35 = .ok (.iconst 0, 1) := by decide +kernel
theorem dX4_letsOf_36 : decode cX4_letsOf 36 = .ok (.ireturn, 1) := by decide +kernel
theorem dX4_join_0 : decode cX4_join 0 = .ok (.iload_n 1, 1) := by decide +kernel
theorem dX4_join_1 : decode cX4_join 1 = .ok (.ifCond .lt 23, 3) := by decide +kernel
theorem dX4_join_4 : decode cX4_join 4 = .ok (.iload_n 1, 1) := by decide +kernel
theorem dX4_join_5 : decode cX4_join 5 = .ok (.aload_n 0, 1) := by decide +kernel
theorem dX4_join_6 : decode cX4_join 6 = .ok (.getfield 36, 3) := by decide +kernel
theorem dX4_join_9 : decode cX4_join 9 = .ok (.if_icmp .ge 15, 3) := by decide +kernel
theorem dX4_join_12 : decode cX4_join 12 = .ok (.iload_n 2, 1) := by decide +kernel
theorem dX4_join_13 : decode cX4_join 13 = .ok (.ifCond .lt 11, 3) := by decide +kernel
theorem dX4_join_16 : decode cX4_join 16 = .ok (.iload_n 2, 1) := by decide +kernel
theorem dX4_join_17 : decode cX4_join 17 = .ok (.aload_n 0, 1) := by decide +kernel
theorem dX4_join_18 : decode cX4_join 18 = .ok (.getfield 36, 3) := by decide +kernel
theorem dX4_join_21 : decode cX4_join 21 = .ok (.if_icmp .lt 4, 3) := by decide +kernel
theorem dX4_join_24 : decode cX4_join 24 = .ok (.return_, 1) := by decide +kernel
theorem dX4_join_25 : decode cX4_join 25 = .ok (.aload_n 0, 1) := by decide +kernel
theorem dX4_join_26 : decode cX4_join 26 = .ok (.getfield 27, 3) := by decide +kernel
theorem dX4_join_29 : decode cX4_join 29 = .ok (.iload_n 2, 1) := by decide +kernel
theorem dX4_join_30 : decode cX4_join 30 = .ok (.iaload, 1) := by decide +kernel
theorem dX4_join_31 : decode cX4_join 31 = .ok (.istore_n 3, 1) := by decide +kernel
theorem dX4_join_32 : decode cX4_join 32 = .ok (.iconst 0, 1) := by decide +kernel
theorem dX4_join_33 : decode cX4_join 33 = .ok (.istore 4, 2) := by decide +kernel
theorem dX4_join_35 : decode cX4_join 35 = .ok (.iload 4, 2) := by decide +kernel
theorem dX4_join_37 : decode cX4_join 37 = .ok (.aload_n 0, 1) := by decide +kernel
theorem dX4_join_38 : decode cX4_join 38 = .ok (.getfield 36, 3) := by decide +kernel
theorem dX4_join_41 : decode cX4_join 41 = .ok (.if_icmp .ge 33, 3) := by decide +kernel
theorem dX4_join_44 : decode cX4_join 44 = .ok (.aload_n 0, 1) := by decide +kernel
theorem dX4_join_45 : decode cX4_join 45 = .ok (.getfield 27, 3) := by decide +kernel
theorem dX4_join_48 : decode cX4_join 48 = .ok (.iload 4, 2) := by decide +kernel
theorem dX4_join_50 : decode cX4_join 50 = .ok (.iaload, 1) := by decide +kernel
theorem dX4_join_51 : decode cX4_join 51 = .ok (.iload_n 3, 1) := by decide +kernel
theorem dX4_join_52 : decode cX4_join 52 = .ok (.if_icmp .ne 16, 3) := by decide +kernel
theorem dX4_join_55 : decode cX4_join 55 = .ok (.aload_n 0, 1) := by decide +kernel
theorem dX4_join_56 : decode cX4_join 56 = .ok (.getfield 27, 3) := by decide +kernel
theorem dX4_join_59 : decode cX4_join 59 = .ok (.iload 4, 2) := by decide +kernel
theorem dX4_join_61 : decode cX4_join 61 = .ok (.aload_n 0, 1) := by decide +kernel
theorem dX4_join_62 : decode cX4_join 62 = .ok (.getfield 27, 3) := by decide +kernel
theorem dX4_join_65 : decode cX4_join 65 = .ok (.iload_n 1, 1) := by decide +kernel
theorem dX4_join_66 : decode cX4_join 66 = .ok (.iaload, 1) := by decide +kernel
theorem dX4_join_67 : decode cX4_join 67 = .ok (.iastore, 1) := by decide +kernel
theorem dX4_join_68 : decode cX4_join 68 = .ok (.iinc 4 1, 3) := by decide +kernel
theorem dX4_join_71 : decode cX4_join 71 = .ok (.goto (-36), 3) := by decide +kernel
theorem dX4_join_74 : decode cX4_join 74 = .ok (.return_, 1) := by decide +kernel
theorem dX4_find_0 : decode cX4_find 0 = .ok (.iconst 0, 1) := by decide +kernel
theorem dX4_find_1 : decode cX4_find 1 = .ok (.istore_n 2, 1) := by decide +kernel
theorem dX4_find_2 : decode cX4_find 2 = .ok (.iload_n 2, 1) := by decide +kernel
theorem dX4_find_3 : decode cX4_find 3 = .ok (.aload_n 0, 1) := by decide +kernel
theorem dX4_find_4 : decode cX4_find 4 = .ok (.getfield 36, 3) := by decide +kernel
theorem dX4_find_7 : decode cX4_find 7 = .ok (.if_icmp .ge 21, 3) := by decide +kernel
theorem dX4_find_10 : decode cX4_find 10 = .ok (.aload_n 0, 1) := by decide +kernel
theorem dX4_find_11 : decode cX4_find 11 = .ok (.getfield 9, 3) := by decide +kernel
theorem dX4_find_14 : decode cX4_find 14 = .ok (.iload_n 2, 1) := by decide +kernel
theorem dX4_find_15 : decode cX4_find 15 = .ok (.iaload, 1) := by decide +kernel
theorem dX4_find_16 : decode cX4_find 16 = .ok (.iload_n 1, 1) := by decide +kernel
theorem dX4_find_17 : decode cX4_find 17 = .ok (.if_icmp .ne 5, 3) := by decide +kernel
theorem dX4_find_20 : decode cX4_find 20 = .ok (.iload_n 2, 1) := by decide +kernel
theorem dX4_find_21 : decode cX4_find 21 = .ok (.ireturn, 1) := by decide +kernel
theorem dX4_find_22 : decode cX4_find 22 = .ok (.iinc 2 1, 3) := by decide +kernel
theorem dX4_find_25 : decode cX4_find 25 = .ok (.goto (-23), 3) := by decide +kernel
theorem dX4_find_28 : decode cX4_find 28 = .ok (.iconst (-1), 1) := by decide +kernel
theorem dX4_find_29 : decode cX4_find 29 = .ok (.ireturn, 1) := by decide +kernel
theorem dX4_fix_0 : decode cX4_fix 0 = .ok (.iload_n 1, 1) := by decide +kernel
theorem dX4_fix_1 : decode cX4_fix 1 = .ok (.ifCond .lt 18, 3) := by decide +kernel
theorem dX4_fix_4 : decode cX4_fix 4 = .ok (.iload_n 1, 1) := by decide +kernel
theorem dX4_fix_5 : decode cX4_fix 5 = .ok (.aload_n 0, 1) := by decide +kernel
theorem dX4_fix_6 : decode cX4_fix 6 = .ok (.getfield 36, 3) := by decide +kernel
theorem dX4_fix_9 : decode cX4_fix 9 = .ok (.if_icmp .ge 10, 3) := by decide +kernel
theorem dX4_fix_12 : decode cX4_fix 12 = .ok (.aload_n 0, 1) := by decide +kernel
theorem dX4_fix_13 : decode cX4_fix 13 = .ok (.getfield 18, 3) := by decide +kernel
theorem dX4_fix_16 : decode cX4_fix 16 = .ok (.iload_n 1, 1) := by decide +kernel
theorem dX4_fix_17 : decode cX4_fix 17 = .ok (.iload_n 2, 1) := by decide +kernel
theorem dX4_fix_18 : decode cX4_fix 18 = .ok (.iastore, 1) := by decide +kernel
theorem dX4_fix_19 : decode cX4_fix 19 = .ok (.return_, 1) := by decide +kernel
theorem dX4_allow_0 : decode cX4_allow 0 = .ok (.iload_n 1, 1) := by decide +kernel
theorem dX4_allow_1 : decode cX4_allow 1 = .ok (.ifCond .lt 18, 3) := by decide +kernel
theorem dX4_allow_4 : decode cX4_allow 4 = .ok (.iload_n 1, 1) := by decide +kernel
theorem dX4_allow_5 : decode cX4_allow 5 = .ok (.aload_n 0, 1) := by decide +kernel
theorem dX4_allow_6 : decode cX4_allow 6 = .ok (.getfield 36, 3) := by decide +kernel
theorem dX4_allow_9 : decode cX4_allow 9 = .ok (.if_icmp .ge 10, 3) := by decide +kernel
theorem dX4_allow_12 : decode cX4_allow 12 = .ok (.aload_n 0, 1) := by decide +kernel
theorem dX4_allow_13 : decode cX4_allow 13 = .ok (.getfield 21, 3) := by decide +kernel
theorem dX4_allow_16 : decode cX4_allow 16 = .ok (.iload_n 1, 1) := by decide +kernel
theorem dX4_allow_17 : decode cX4_allow 17 = .ok (.iload_n 2, 1) := by decide +kernel
theorem dX4_allow_18 : decode cX4_allow 18 = .ok (.iastore, 1) := by decide +kernel
theorem dX4_allow_19 : decode cX4_allow 19 = .ok (.return_, 1) := by decide +kernel
theorem dX4_madeOf_0 : decode cX4_madeOf 0 = .ok (.iload_n 1, 1) := by decide +kernel
theorem dX4_madeOf_1 : decode cX4_madeOf 1 = .ok (.ifCond .lt 33, 3) := by decide +kernel
theorem dX4_madeOf_4 : decode cX4_madeOf 4 = .ok (.iload_n 1, 1) := by decide +kernel
theorem dX4_madeOf_5 : decode cX4_madeOf 5 = .ok (.aload_n 0, 1) := by decide +kernel
theorem dX4_madeOf_6 : decode cX4_madeOf 6 = .ok (.getfield 36, 3) := by decide +kernel
theorem dX4_madeOf_9 : decode cX4_madeOf 9 = .ok (.if_icmp .ge 25, 3) := by decide +kernel
theorem dX4_madeOf_12 : decode cX4_madeOf 12 = .ok (.iload_n 2, 1) := by decide +kernel
theorem dX4_madeOf_13 : decode cX4_madeOf 13 = .ok (.ifCond .lt 21, 3) := by decide +kernel
theorem dX4_madeOf_16 : decode cX4_madeOf 16 = .ok (.iload_n 2, 1) := by decide +kernel
theorem dX4_madeOf_17 : decode cX4_madeOf 17 = .ok (.iconst 2, 1) := by decide +kernel
theorem dX4_madeOf_18 : decode cX4_madeOf 18 = .ok (.if_icmp .ge 16, 3) := by decide +kernel
theorem dX4_madeOf_21 : decode cX4_madeOf 21 = .ok (.aload_n 0, 1) := by decide +kernel
theorem dX4_madeOf_22 : decode cX4_madeOf 22 = .ok (.getfield 30, 3) := by decide +kernel
theorem dX4_madeOf_25 : decode cX4_madeOf 25 = .ok (.iconst 2, 1) := by decide +kernel
theorem dX4_madeOf_26 : decode cX4_madeOf 26 = .ok (.iload_n 1, 1) := by decide +kernel
theorem dX4_madeOf_27 : decode cX4_madeOf 27 = .ok (.imul, 1) := by decide +kernel
theorem dX4_madeOf_28 : decode cX4_madeOf 28 = .ok (.iload_n 2, 1) := by decide +kernel
theorem dX4_madeOf_29 : decode cX4_madeOf 29 = .ok (.iadd, 1) := by decide +kernel
theorem dX4_madeOf_30 : decode cX4_madeOf 30 = .ok (.iaload, 1) := by decide +kernel
theorem dX4_madeOf_31 : decode cX4_madeOf 31 = .ok (.goto 4, 3) := by decide +kernel
theorem dX4_madeOf_34 : decode cX4_madeOf 34 = .ok (.iconst (-1), 1) := by decide +kernel
theorem dX4_madeOf_35 : decode cX4_madeOf 35 = .ok (.ireturn, 1) := by decide +kernel
theorem dX4_amountOf_0 : decode cX4_amountOf 0 = .ok (.iload_n 1, 1) := by decide +kernel
theorem dX4_amountOf_1 : decode cX4_amountOf 1 = .ok (.ifCond .lt 34, 3) := by decide +kernel
theorem dX4_amountOf_4 : decode cX4_amountOf 4 = .ok (.iload_n 1, 1) := by decide +kernel
theorem dX4_amountOf_5 : decode cX4_amountOf 5 = .ok (.aload_n 0, 1) := by decide +kernel
theorem dX4_amountOf_6 : decode cX4_amountOf 6 = .ok (.getfield 36, 3) := by decide +kernel
theorem dX4_amountOf_9 : decode cX4_amountOf 9 = .ok (.if_icmp .ge 26, 3) := by decide +kernel
theorem dX4_amountOf_12 : decode cX4_amountOf 12 = .ok (.iload_n 2, 1) := by decide +kernel
theorem dX4_amountOf_13 : decode cX4_amountOf 13 = .ok (.ifCond .lt 22, 3) := by decide +kernel
theorem dX4_amountOf_16 : decode cX4_amountOf 16 = .ok (.iload_n 2, 1) := by decide +kernel
theorem dX4_amountOf_17 : decode cX4_amountOf 17 = .ok (.iconst 2, 1) := by decide +kernel
theorem dX4_amountOf_18 : decode cX4_amountOf 18 = .ok (.if_icmp .ge 17, 3) := by decide +kernel
theorem dX4_amountOf_21 : decode cX4_amountOf 21 = .ok (.aload_n 0, 1) := by decide +kernel
theorem dX4_amountOf_22 : decode cX4_amountOf 22 = .ok (.getfield 33, 3) := by decide +kernel
theorem dX4_amountOf_25 : decode cX4_amountOf 25 = .ok (.iconst 2, 1) := by decide +kernel
theorem dX4_amountOf_26 : decode cX4_amountOf 26 = .ok (.iload_n 1, 1) := by decide +kernel
theorem dX4_amountOf_27 : decode cX4_amountOf 27 = .ok (.imul, 1) := by decide +kernel
theorem dX4_amountOf_28 : decode cX4_amountOf 28 = .ok (.iload_n 2, 1) := by decide +kernel
theorem dX4_amountOf_29 : decode cX4_amountOf 29 = .ok (.iadd, 1) := by decide +kernel
theorem dX4_amountOf_30 : decode cX4_amountOf 30 = .ok (.iaload, 1) := by decide +kernel
theorem dX4_amountOf_31 : decode cX4_amountOf 31 = .ok (.i2l, 1) := by decide +kernel
theorem dX4_amountOf_32 : decode cX4_amountOf 32 = .ok (.goto 4, 3) := by decide +kernel
theorem dX4_amountOf_35 : decode cX4_amountOf 35 = .ok (.lconst 0, 1) := by decide +kernel
theorem dX4_amountOf_36 : decode cX4_amountOf 36 = .ok (.lreturn, 1) := by decide +kernel
theorem dX4_countAnswers_0 : decode cX4_countAnswers 0 = .ok (.iconst 0, 1) := by decide +kernel
theorem dX4_countAnswers_1 : decode cX4_countAnswers 1 = .ok (.istore_n 2, 1) := by decide +kernel
theorem dX4_countAnswers_2 : decode cX4_countAnswers 2 = .ok (.iconst 0, 1) := by decide +kernel
theorem dX4_countAnswers_3 : decode cX4_countAnswers 3 = .ok (.istore_n 3, 1) := by decide +kernel
theorem dX4_countAnswers_4 : decode cX4_countAnswers 4 = .ok (.iload_n 3, 1) := by decide +kernel
theorem dX4_countAnswers_5 : decode cX4_countAnswers 5 = .ok (.iload_n 1, 1) := by decide +kernel
theorem dX4_countAnswers_6 : decode cX4_countAnswers 6 = .ok (.if_icmp .ge 35, 3) := by decide +kernel
theorem dX4_countAnswers_9 : decode cX4_countAnswers 9 = .ok (.iload_n 3, 1) := by decide +kernel
theorem dX4_countAnswers_10 : decode cX4_countAnswers 10 = .ok (.aload_n 0, 1) := by decide +kernel
theorem dX4_countAnswers_11 : decode cX4_countAnswers 11 = .ok (.getfield 36, 3) := by decide +kernel
theorem dX4_countAnswers_14 : decode cX4_countAnswers 14 = .ok (.if_icmp .ge 27, 3) := by decide +kernel
theorem dX4_countAnswers_17 : decode cX4_countAnswers 17 = .ok (.iload_n 2, 1) := by decide +kernel
theorem dX4_countAnswers_18 : decode cX4_countAnswers 18 = .ok (.aload_n 0, 1) := by decide +kernel
theorem dX4_countAnswers_19 : decode cX4_countAnswers 19 = .ok (.getfield 21, 3) := by decide +kernel
theorem dX4_countAnswers_22 : decode cX4_countAnswers 22 = .ok (.iload_n 3, 1) := by decide +kernel
theorem dX4_countAnswers_23 : decode cX4_countAnswers 23 = .ok (.iaload, 1) := by decide +kernel
theorem dX4_countAnswers_24 : decode cX4_countAnswers 24 = .ok (.iconst (-1), 1) := by decide +kernel
theorem dX4_countAnswers_25 : decode cX4_countAnswers 25 = .ok (.if_icmp .eq 7, 3) := by decide +kernel
theorem dX4_countAnswers_28 : decode cX4_countAnswers 28 = .ok (.iconst 1, 1) := by decide +kernel
theorem dX4_countAnswers_29 : decode cX4_countAnswers 29 = .ok (.goto 4, 3) := by decide +kernel
theorem dX4_countAnswers_32 : decode cX4_countAnswers 32 = .ok (.iconst 0, 1) := by decide +kernel
theorem dX4_countAnswers_33 : decode cX4_countAnswers 33 = .ok (.iadd, 1) := by decide +kernel
theorem dX4_countAnswers_34 : decode cX4_countAnswers 34 = .ok (.istore_n 2, 1) := by decide +kernel
theorem dX4_countAnswers_35 : decode cX4_countAnswers 35 = .ok (.iinc 3 1, 3) := by decide +kernel
theorem dX4_countAnswers_38 : decode cX4_countAnswers 38 = .ok (.goto (-34), 3) := by decide +kernel
theorem dX4_countAnswers_41 : decode cX4_countAnswers 41 = .ok (.iload_n 2, 1) := by decide +kernel
theorem dX4_countAnswers_42 : decode cX4_countAnswers 42 = .ok (.ireturn, 1) := by decide +kernel
theorem dX4_madeFrom_0 : decode cX4_madeFrom 0 = .ok (.iconst 0, 1) := by decide +kernel
theorem dX4_madeFrom_1 : decode cX4_madeFrom 1 = .ok (.istore_n 2, 1) := by decide +kernel
theorem dX4_madeFrom_2 : decode cX4_madeFrom 2 = .ok (.iload_n 1, 1) := by decide +kernel
theorem dX4_madeFrom_3 : decode cX4_madeFrom 3 = .ok (.iconst 1, 1) := by decide +kernel
theorem dX4_madeFrom_4 : decode cX4_madeFrom 4 = .ok (.iadd, 1) := by decide +kernel
theorem dX4_madeFrom_5 : decode cX4_madeFrom 5 = .ok (.istore_n 3, 1) := by decide +kernel
theorem dX4_madeFrom_6 : decode cX4_madeFrom 6 = .ok (.iload_n 3, 1) := by decide +kernel
theorem dX4_madeFrom_7 : decode cX4_madeFrom 7 = .ok (.aload_n 0, 1) := by decide +kernel
theorem dX4_madeFrom_8 : decode cX4_madeFrom 8 = .ok (.getfield 36, 3) := by decide +kernel
theorem dX4_madeFrom_11 : decode cX4_madeFrom 11 = .ok (.if_icmp .ge 43, 3) := by decide +kernel
theorem dX4_madeFrom_14 : decode cX4_madeFrom 14 = .ok (.iload_n 1, 1) := by decide +kernel
theorem dX4_madeFrom_15 : decode cX4_madeFrom 15 = .ok (.iload_n 2, 1) := by decide +kernel
theorem dX4_madeFrom_16 : decode cX4_madeFrom 16 = .ok (.aload_n 0, 1) := by decide +kernel
theorem dX4_madeFrom_17 : decode cX4_madeFrom 17 = .ok (.iload_n 3, 1) := by decide +kernel
theorem dX4_madeFrom_18 : decode cX4_madeFrom 18 = .ok (.iconst 0, 1) := by decide +kernel
theorem dX4_madeFrom_19 : decode cX4_madeFrom 19 = .ok (.invokevirtual 53, 3) := by decide +kernel
theorem dX4_madeFrom_22 : decode cX4_madeFrom 22 = .ok (.invokestatic 56, 3) := by decide +kernel
theorem dX4_madeFrom_25 : decode cX4_madeFrom 25 = .ok (.ifCond .ne 17, 3) := by decide +kernel
theorem dX4_madeFrom_28 : decode cX4_madeFrom 28 = .ok (.iload_n 1, 1) := by decide +kernel
theorem dX4_madeFrom_29 : decode cX4_madeFrom 29 = .ok (.iload_n 2, 1) := by decide +kernel
theorem dX4_madeFrom_30 : decode cX4_madeFrom 30 = .ok (.aload_n 0, 1) := by decide +kernel
theorem dX4_madeFrom_31 : decode cX4_madeFrom 31 = .ok (.iload_n 3, 1) := by decide +kernel
theorem dX4_madeFrom_32 : decode cX4_madeFrom 32 = .ok (.iconst 1, 1) := by decide +kernel
theorem dX4_madeFrom_33 : decode cX4_madeFrom 33 = .ok (.invokevirtual 53, 3) := by decide +kernel
theorem dX4_madeFrom_36 : decode cX4_madeFrom 36 = .ok (.invokestatic 56, 3) := by decide +kernel
theorem dX4_madeFrom_39 : decode cX4_madeFrom 39 = .ok (.ifCond .eq 9, 3) := by decide +kernel
theorem dX4_madeFrom_42 : decode cX4_madeFrom 42 = .ok (.iload_n 2, 1) := by decide +kernel
theorem dX4_madeFrom_43 : decode cX4_madeFrom 43 = .ok (.iconst 1, 1) := by decide +kernel
theorem dX4_madeFrom_44 : decode cX4_madeFrom 44 = .ok (.iload_n 3, 1) := by decide +kernel
theorem dX4_madeFrom_45 : decode cX4_madeFrom 45 = .ok (.ishl, 1) := by decide +kernel
theorem dX4_madeFrom_46 : decode cX4_madeFrom 46 = .ok (.ior, 1) := by decide +kernel
theorem dX4_madeFrom_47 : decode cX4_madeFrom 47 = .ok (.istore_n 2, 1) := by decide +kernel
theorem dX4_madeFrom_48 : decode cX4_madeFrom 48 = .ok (.iinc 3 1, 3) := by decide +kernel
theorem dX4_madeFrom_51 : decode cX4_madeFrom 51 = .ok (.goto (-45), 3) := by decide +kernel
theorem dX4_madeFrom_54 : decode cX4_madeFrom 54 = .ok (.iload_n 2, 1) := by decide +kernel
theorem dX4_madeFrom_55 : decode cX4_madeFrom 55 = .ok (.ireturn, 1) := by decide +kernel
theorem dX4_isAmong_0 : decode cX4_isAmong 0 = .ok (.iload_n 2, 1) := by decide +kernel
theorem dX4_isAmong_1 : decode cX4_isAmong 1 = .ok (.iload_n 0, 1) := by decide +kernel
theorem dX4_isAmong_2 : decode cX4_isAmong 2 = .ok (.if_icmp .eq 16, 3) := by decide +kernel
theorem dX4_isAmong_5 : decode cX4_isAmong 5 = .ok (.iload_n 2, 1) := by decide +kernel
theorem dX4_isAmong_6 : decode cX4_isAmong 6 = .ok (.ifCond .lt 16, 3) := by decide +kernel
theorem dX4_isAmong_9 : decode cX4_isAmong 9 = .ok (.iload_n 1, 1) := by decide +kernel
theorem dX4_isAmong_10 : decode cX4_isAmong 10 = .ok (.iload_n 2, 1) := by decide +kernel
theorem dX4_isAmong_11 : decode cX4_isAmong 11 = .ok (.ishr, 1) := by decide +kernel
theorem dX4_isAmong_12 : decode cX4_isAmong 12 = .ok (.iconst 1, 1) := by decide +kernel
theorem dX4_isAmong_13 : decode cX4_isAmong 13 = .ok (.iand, 1) := by decide +kernel
theorem dX4_isAmong_14 : decode cX4_isAmong 14 = .ok (.iconst 1, 1) := by decide +kernel
theorem dX4_isAmong_15 : decode cX4_isAmong 15 = .ok (.if_icmp .ne 7, 3) := by decide +kernel
theorem dX4_isAmong_18 : decode cX4_isAmong 18 = .ok (.iconst 1, 1) := by decide +kernel
theorem dX4_isAmong_19 : decode cX4_isAmong 19 = .ok (.goto 4, 3) := by decide +kernel
theorem dX4_isAmong_22 : decode cX4_isAmong 22 = .ok (.iconst 0, 1) := by decide +kernel
theorem dX4_isAmong_23 : decode cX4_isAmong 23 = .ok (.ireturn, 1) := by decide +kernel
theorem dX9_clear_0 : decode cX9_clear 0 = .ok (.aload_n 0, 1) := by decide +kernel
theorem dX9_clear_1 : decode cX9_clear 1 = .ok (.iconst 0, 1) := by decide +kernel
theorem dX9_clear_2 : decode cX9_clear 2 = .ok (.putfield 45, 3) := by decide +kernel
theorem dX9_clear_5 : decode cX9_clear 5 = .ok (.aload_n 0, 1) := by decide +kernel
theorem dX9_clear_6 : decode cX9_clear 6 = .ok (.iconst 1, 1) := by decide +kernel
theorem dX9_clear_7 : decode cX9_clear 7 = .ok (.putfield 49, 3) := by decide +kernel
theorem dX9_clear_10 : decode cX9_clear 10 = .ok (.aload_n 0, 1) := by decide +kernel
theorem dX9_clear_11 : decode cX9_clear 11 = .ok (.getfield 27, 3) := by decide +kernel
theorem dX9_clear_14 : decode cX9_clear 14 = .ok (.iconst 0, 1) := by decide +kernel
theorem dX9_clear_15 : decode cX9_clear 15 = .ok (.putfield 52, 3) := by decide +kernel
theorem dX9_clear_18 : decode cX9_clear 18 = .ok (.aload_n 0, 1) := by decide +kernel
theorem dX9_clear_19 : decode cX9_clear 19 = .ok (.getfield 27, 3) := by decide +kernel
theorem dX9_clear_22 : decode cX9_clear 22 = .ok (.iconst 0, 1) := by decide +kernel
theorem dX9_clear_23 : decode cX9_clear 23 = .ok (.putfield 55, 3) := by decide +kernel
theorem dX9_clear_26 : decode cX9_clear 26 = .ok (.return_, 1) := by decide +kernel
theorem dX9_addFormat_0 : decode cX9_addFormat 0 = .ok (.aload_n 0, 1) := by decide +kernel
theorem dX9_addFormat_1 : decode cX9_addFormat 1 = .ok (.getfield 45, 3) := by decide +kernel
theorem dX9_addFormat_4 : decode cX9_addFormat 4 = .ok (.iconst 4, 1) := by decide +kernel
theorem dX9_addFormat_5 : decode cX9_addFormat 5 = .ok (.if_icmp .ge 54, 3) := by decide +kernel
theorem dX9_addFormat_8 : decode cX9_addFormat 8 = .ok (.aload_n 0, 1) := by decide +kernel
theorem dX9_addFormat_9 : decode cX9_addFormat 9 = .ok (.getfield 9, 3) := by decide +kernel
theorem dX9_addFormat_12 : decode cX9_addFormat 12 = .ok (.aload_n 0, 1) := by decide +kernel
theorem dX9_addFormat_13 : decode cX9_addFormat 13 = .ok (.getfield 45, 3) := by decide +kernel
theorem dX9_addFormat_16 : decode cX9_addFormat 16 = .ok (.iload_n 1, 1) := by decide +kernel
theorem dX9_addFormat_17 : decode cX9_addFormat 17 = .ok (.iastore, 1) := by decide +kernel
theorem dX9_addFormat_18 : decode cX9_addFormat 18 = .ok (.aload_n 0, 1) := by decide +kernel
theorem dX9_addFormat_19 : decode cX9_addFormat 19 = .ok (.getfield 15, 3) := by decide +kernel
theorem dX9_addFormat_22 : decode cX9_addFormat 22 = .ok (.aload_n 0, 1) := by decide +kernel
theorem dX9_addFormat_23 : decode cX9_addFormat 23 = .ok (.getfield 45, 3) := by decide +kernel
theorem dX9_addFormat_26 : decode cX9_addFormat 26 = .ok (.iload_n 2, 1) := by decide +kernel
theorem dX9_addFormat_27 : decode cX9_addFormat 27 = .ok (.iastore, 1) := by decide +kernel
theorem dX9_addFormat_28 : decode cX9_addFormat 28 = .ok (.aload_n 0, 1) := by decide +kernel
theorem dX9_addFormat_29 : decode cX9_addFormat 29 = .ok (.getfield 18, 3) := by decide +kernel
theorem dX9_addFormat_32 : decode cX9_addFormat 32 = .ok (.aload_n 0, 1) := by decide +kernel
theorem dX9_addFormat_33 : decode cX9_addFormat 33 = .ok (.getfield 45, 3) := by decide +kernel
theorem dX9_addFormat_36 : decode cX9_addFormat 36 = .ok (.iload_n 3, 1) := by decide +kernel
theorem dX9_addFormat_37 : decode cX9_addFormat 37 = .ok (.iastore, 1) := by decide +kernel
theorem dX9_addFormat_38 : decode cX9_addFormat 38 = .ok (.aload_n 0, 1) := by decide +kernel
theorem dX9_addFormat_39 : decode cX9_addFormat 39 = .ok (.getfield 21, 3) := by decide +kernel
theorem dX9_addFormat_42 : decode cX9_addFormat 42 = .ok (.aload_n 0, 1) := by decide +kernel
theorem dX9_addFormat_43 : decode cX9_addFormat 43 = .ok (.getfield 45, 3) := by decide +kernel
theorem dX9_addFormat_46 : decode cX9_addFormat 46 = .ok (.iload 4, 2) := by decide +kernel
theorem dX9_addFormat_48 : decode cX9_addFormat 48 = .ok (.iastore, 1) := by decide +kernel
theorem dX9_addFormat_49 : decode cX9_addFormat 49 = .ok (.aload_n 0, 1) := by decide +kernel
theorem dX9_addFormat_50 : decode cX9_addFormat 50 = .ok (.dup, 1) := by decide +kernel
theorem dX9_addFormat_51 : decode cX9_addFormat 51 = .ok (.getfield 45, 3) := by decide +kernel
theorem dX9_addFormat_54 : decode cX9_addFormat 54 = .ok (.iconst 1, 1) := by decide +kernel
theorem dX9_addFormat_55 : decode cX9_addFormat 55 = .ok (.iadd, 1) := by decide +kernel
theorem dX9_addFormat_56 : decode cX9_addFormat 56 = .ok (.putfield 45, 3) := by decide +kernel
theorem dX9_addFormat_59 : decode cX9_addFormat 59 = .ok (.return_, 1) := by decide +kernel
theorem dX9_findFormat_0 : decode cX9_findFormat 0 = .ok (.iconst 0, 1) := by decide +kernel
theorem dX9_findFormat_1 : decode cX9_findFormat 1 = .ok (.istore_n 2, 1) := by decide +kernel
theorem dX9_findFormat_2 : decode cX9_findFormat 2 = .ok (.iload_n 2, 1) := by decide +kernel
theorem dX9_findFormat_3 : decode cX9_findFormat 3 = .ok (.aload_n 0, 1) := by decide +kernel
theorem dX9_findFormat_4 : decode cX9_findFormat 4 = .ok (.getfield 45, 3) := by decide +kernel
theorem dX9_findFormat_7 : decode cX9_findFormat 7 = .ok (.if_icmp .ge 21, 3) := by decide +kernel
theorem dX9_findFormat_10 : decode cX9_findFormat 10 = .ok (.aload_n 0, 1) := by decide +kernel
theorem dX9_findFormat_11 : decode cX9_findFormat 11 = .ok (.getfield 9, 3) := by decide +kernel
theorem dX9_findFormat_14 : decode cX9_findFormat 14 = .ok (.iload_n 2, 1) := by decide +kernel
theorem dX9_findFormat_15 : decode cX9_findFormat 15 = .ok (.iaload, 1) := by decide +kernel
theorem dX9_findFormat_16 : decode cX9_findFormat 16 = .ok (.iload_n 1, 1) := by decide +kernel
theorem dX9_findFormat_17 : decode cX9_findFormat 17 = .ok (.if_icmp .ne 5, 3) := by decide +kernel
theorem dX9_findFormat_20 : decode cX9_findFormat 20 = .ok (.iload_n 2, 1) := by decide +kernel
theorem dX9_findFormat_21 : decode cX9_findFormat 21 = .ok (.ireturn, 1) := by decide +kernel
theorem dX9_findFormat_22 : decode cX9_findFormat 22 = .ok (.iinc 2 1, 3) := by decide +kernel
theorem dX9_findFormat_25 : decode cX9_findFormat 25 = .ok (.goto (-23), 3) := by decide +kernel
theorem dX9_findFormat_28 : decode cX9_findFormat 28 = .ok (.iconst (-1), 1) := by decide +kernel
theorem dX9_findFormat_29 : decode cX9_findFormat 29 = .ok (.ireturn, 1) := by decide +kernel
theorem dX9_hasFormat_0 : decode cX9_hasFormat 0 = .ok (.iload_n 1, 1) := by decide +kernel
theorem dX9_hasFormat_1 : decode cX9_hasFormat 1 = .ok (.ifCond .lt 15, 3) := by decide +kernel
theorem dX9_hasFormat_4 : decode cX9_hasFormat 4 = .ok (.iload_n 1, 1) := by decide +kernel
theorem dX9_hasFormat_5 : decode cX9_hasFormat 5 = .ok (.aload_n 0, 1) := by decide +kernel
theorem dX9_hasFormat_6 : decode cX9_hasFormat 6 = .ok (.getfield 45, 3) := by decide +kernel
theorem dX9_hasFormat_9 : decode cX9_hasFormat 9 = .ok (.if_icmp .ge 7, 3) := by decide +kernel
theorem dX9_hasFormat_12 : decode cX9_hasFormat 12 = .ok (.iconst 1, 1) := by decide +kernel
theorem dX9_hasFormat_13 : decode cX9_hasFormat 13 = .ok (.goto 4, 3) := by decide +kernel
theorem dX9_hasFormat_16 : decode cX9_hasFormat 16 = .ok (.iconst 0, 1) := by decide +kernel
theorem dX9_hasFormat_17 : decode cX9_hasFormat 17 = .ok (.ireturn, 1) := by decide +kernel
theorem dX9_hasNumber_0 : decode cX9_hasNumber 0 = .ok (.iload_n 1, 1) := by decide +kernel
theorem dX9_hasNumber_1 : decode cX9_hasNumber 1 = .ok (.ifCond .lt 18, 3) := by decide +kernel
theorem dX9_hasNumber_4 : decode cX9_hasNumber 4 = .ok (.iload_n 1, 1) := by decide +kernel
theorem dX9_hasNumber_5 : decode cX9_hasNumber 5 = .ok (.aload_n 0, 1) := by decide +kernel
theorem dX9_hasNumber_6 : decode cX9_hasNumber 6 = .ok (.getfield 27, 3) := by decide +kernel
theorem dX9_hasNumber_9 : decode cX9_hasNumber 9 = .ok (.getfield 52, 3) := by decide +kernel
theorem dX9_hasNumber_12 : decode cX9_hasNumber 12 = .ok (.if_icmp .ge 7, 3) := by decide +kernel
theorem dX9_hasNumber_15 : decode cX9_hasNumber 15 = .ok (.iconst 1, 1) := by decide +kernel
theorem dX9_hasNumber_16 : decode cX9_hasNumber 16 = .ok (.goto 4, 3) := by decide +kernel
theorem dX9_hasNumber_19 : decode cX9_hasNumber 19 = .ok (.iconst 0, 1) := by decide +kernel
theorem dX9_hasNumber_20 : decode cX9_hasNumber 20 = .ok (.ireturn, 1) := by decide +kernel
theorem dX9_hasChoice_0 : decode cX9_hasChoice 0 = .ok (.aload_n 0, 1) := by decide +kernel
theorem dX9_hasChoice_1 : decode cX9_hasChoice 1 = .ok (.getfield 27, 3) := by decide +kernel
theorem dX9_hasChoice_4 : decode cX9_hasChoice 4 = .ok (.getfield 52, 3) := by decide +kernel
theorem dX9_hasChoice_7 : decode cX9_hasChoice 7 = .ok (.ifCond .le 17, 3) := by decide +kernel
theorem dX9_hasChoice_10 : decode cX9_hasChoice 10 = .ok (.aload_n 0, 1) := by decide +kernel
theorem dX9_hasChoice_11 : decode cX9_hasChoice 11 = .ok (.getfield 34, 3) := by decide +kernel
theorem dX9_hasChoice_14 : decode cX9_hasChoice 14 = .ok (.getfield 66, 3) := by decide +kernel
theorem dX9_hasChoice_17 : decode cX9_hasChoice 17 = .ok (.ifCond .ne 7, 3) := by decide +kernel
theorem dX9_hasChoice_20 : decode cX9_hasChoice 20 = .ok (.iconst 1, 1) := by decide +kernel
theorem dX9_hasChoice_21 : decode cX9_hasChoice 21 = .ok (.goto 4, 3) := by decide +kernel
theorem dX9_hasChoice_24 : decode cX9_hasChoice 24 = .ok (.iconst 0, 1) := by decide +kernel
theorem dX9_hasChoice_25 : decode cX9_hasChoice 25 = .ok (.ireturn, 1) := by decide +kernel
theorem dX9_isAnswer_0 : decode cX9_isAnswer 0 = .ok (.aload_n 0, 1) := by decide +kernel
theorem dX9_isAnswer_1 : decode cX9_isAnswer 1 = .ok (.iload_n 1, 1) := by decide +kernel
theorem dX9_isAnswer_2 : decode cX9_isAnswer 2 = .ok (.invokevirtual 70, 3) := by decide +kernel
theorem dX9_isAnswer_5 : decode cX9_isAnswer 5 = .ok (.ifCond .eq 20, 3) := by decide +kernel
theorem dX9_isAnswer_8 : decode cX9_isAnswer 8 = .ok (.aload_n 0, 1) := by decide +kernel
theorem dX9_isAnswer_9 : decode cX9_isAnswer 9 = .ok (.getfield 27, 3) := by decide +kernel
theorem dX9_isAnswer_12 : decode cX9_isAnswer 12 = .ok (.getfield 74, 3) := by decide +kernel
theorem dX9_isAnswer_15 : decode cX9_isAnswer 15 = .ok (.iload_n 1, 1) := by decide +kernel
theorem dX9_isAnswer_16 : decode cX9_isAnswer 16 = .ok (.iaload, 1) := by decide +kernel
theorem dX9_isAnswer_17 : decode cX9_isAnswer 17 = .ok (.iconst (-1), 1) := by decide +kernel
theorem dX9_isAnswer_18 : decode cX9_isAnswer 18 = .ok (.if_icmp .eq 7, 3) := by decide +kernel
theorem dX9_isAnswer_21 : decode cX9_isAnswer 21 = .ok (.iconst 1, 1) := by decide +kernel
theorem dX9_isAnswer_22 : decode cX9_isAnswer 22 = .ok (.goto 4, 3) := by decide +kernel
theorem dX9_isAnswer_25 : decode cX9_isAnswer 25 = .ok (.iconst 0, 1) := by decide +kernel
theorem dX9_isAnswer_26 : decode cX9_isAnswer 26 = .ok (.ireturn, 1) := by decide +kernel
theorem dX9_isInput_0 : decode cX9_isInput 0 = .ok (.aload_n 0, 1) := by decide +kernel
theorem dX9_isInput_1 : decode cX9_isInput 1 = .ok (.iload_n 1, 1) := by decide +kernel
theorem dX9_isInput_2 : decode cX9_isInput 2 = .ok (.invokevirtual 70, 3) := by decide +kernel
theorem dX9_isInput_5 : decode cX9_isInput 5 = .ok (.ifCond .eq 19, 3) := by decide +kernel
theorem dX9_isInput_8 : decode cX9_isInput 8 = .ok (.aload_n 0, 1) := by decide +kernel
theorem dX9_isInput_9 : decode cX9_isInput 9 = .ok (.getfield 27, 3) := by decide +kernel
theorem dX9_isInput_12 : decode cX9_isInput 12 = .ok (.getfield 77, 3) := by decide +kernel
theorem dX9_isInput_15 : decode cX9_isInput 15 = .ok (.iload_n 1, 1) := by decide +kernel
theorem dX9_isInput_16 : decode cX9_isInput 16 = .ok (.iaload, 1) := by decide +kernel
theorem dX9_isInput_17 : decode cX9_isInput 17 = .ok (.ifCond .ne 7, 3) := by decide +kernel
theorem dX9_isInput_20 : decode cX9_isInput 20 = .ok (.iconst 1, 1) := by decide +kernel
theorem dX9_isInput_21 : decode cX9_isInput 21 = .ok (.goto 4, 3) := by decide +kernel
theorem dX9_isInput_24 : decode cX9_isInput 24 = .ok (.iconst 0, 1) := by decide +kernel
theorem dX9_isInput_25 : decode cX9_isInput 25 = .ok (.ireturn, 1) := by decide +kernel
theorem dX9_isFree_0 : decode cX9_isFree 0 = .ok (.aload_n 0, 1) := by decide +kernel
theorem dX9_isFree_1 : decode cX9_isFree 1 = .ok (.iload_n 1, 1) := by decide +kernel
theorem dX9_isFree_2 : decode cX9_isFree 2 = .ok (.invokevirtual 70, 3) := by decide +kernel
theorem dX9_isFree_5 : decode cX9_isFree 5 = .ok (.ifCond .eq 26, 3) := by decide +kernel
theorem dX9_isFree_8 : decode cX9_isFree 8 = .ok (.aload_n 0, 1) := by decide +kernel
theorem dX9_isFree_9 : decode cX9_isFree 9 = .ok (.getfield 34, 3) := by decide +kernel
theorem dX9_isFree_12 : decode cX9_isFree 12 = .ok (.aload_n 0, 1) := by decide +kernel
theorem dX9_isFree_13 : decode cX9_isFree 13 = .ok (.getfield 34, 3) := by decide +kernel
theorem dX9_isFree_16 : decode cX9_isFree 16 = .ok (.getfield 80, 3) := by decide +kernel
theorem dX9_isFree_19 : decode cX9_isFree 19 = .ok (.iload_n 1, 1) := by decide +kernel
theorem dX9_isFree_20 : decode cX9_isFree 20 = .ok (.iaload, 1) := by decide +kernel
theorem dX9_isFree_21 : decode cX9_isFree 21 = .ok (.invokevirtual 83, 3) := by decide +kernel
theorem dX9_isFree_24 : decode cX9_isFree 24 = .ok (.ifCond .eq 7, 3) := by decide +kernel
theorem dX9_isFree_27 : decode cX9_isFree 27 = .ok (.iconst 1, 1) := by decide +kernel
theorem dX9_isFree_28 : decode cX9_isFree 28 = .ok (.goto 4, 3) := by decide +kernel
theorem dX9_isFree_31 : decode cX9_isFree 31 = .ok (.iconst 0, 1) := by decide +kernel
theorem dX9_isFree_32 : decode cX9_isFree 32 = .ok (.ireturn, 1) := by decide +kernel
theorem dX9_formatOf_0 : decode cX9_formatOf 0 = .ok (.iload_n 2, 1) := by decide +kernel
theorem dX9_formatOf_1 : decode cX9_formatOf 1 = .ok (.ifCond .lt 26, 3) := by decide +kernel
theorem dX9_formatOf_4 : decode cX9_formatOf 4 = .ok (.iload_n 2, 1) := by decide +kernel
theorem dX9_formatOf_5 : decode cX9_formatOf 5 = .ok (.aload_n 0, 1) := by decide +kernel
theorem dX9_formatOf_6 : decode cX9_formatOf 6 = .ok (.getfield 27, 3) := by decide +kernel
theorem dX9_formatOf_9 : decode cX9_formatOf 9 = .ok (.getfield 52, 3) := by decide +kernel
theorem dX9_formatOf_12 : decode cX9_formatOf 12 = .ok (.if_icmp .ge 15, 3) := by decide +kernel
theorem dX9_formatOf_15 : decode cX9_formatOf 15 = .ok (.aload_n 0, 1) := by decide +kernel
theorem dX9_formatOf_16 : decode cX9_formatOf 16 = .ok (.getfield 34, 3) := by decide +kernel
theorem dX9_formatOf_19 : decode cX9_formatOf 19 = .ok (.getfield 80, 3) := by decide +kernel
theorem dX9_formatOf_22 : decode cX9_formatOf 22 = .ok (.iload_n 2, 1) := by decide +kernel
theorem dX9_formatOf_23 : decode cX9_formatOf 23 = .ok (.iaload, 1) := by decide +kernel
theorem dX9_formatOf_24 : decode cX9_formatOf 24 = .ok (.goto 4, 3) := by decide +kernel
theorem dX9_formatOf_27 : decode cX9_formatOf 27 = .ok (.iconst (-1), 1) := by decide +kernel
theorem dX9_formatOf_28 : decode cX9_formatOf 28 = .ok (.istore_n 3, 1) := by decide +kernel
theorem dX9_formatOf_29 : decode cX9_formatOf 29 = .ok (.iload_n 3, 1) := by decide +kernel
theorem dX9_formatOf_30 : decode cX9_formatOf 30 = .ok (.ifCond .lt 15, 3) := by decide +kernel
theorem dX9_formatOf_33 : decode cX9_formatOf 33 = .ok (.iload_n 3, 1) := by decide +kernel
theorem dX9_formatOf_34 : decode cX9_formatOf 34 = .ok (.aload_n 1, 1) := by decide +kernel
theorem dX9_formatOf_35 : decode cX9_formatOf 35 = .ok (.arraylength, 1) := by decide +kernel
theorem dX9_formatOf_36 : decode cX9_formatOf 36 = .ok (.if_icmp .ge 9, 3) := by decide +kernel
theorem dX9_formatOf_39 : decode cX9_formatOf 39 = .ok (.aload_n 1, 1) := by decide +kernel
theorem dX9_formatOf_40 : decode cX9_formatOf 40 = .ok (.iload_n 3, 1) := by decide +kernel
theorem dX9_formatOf_41 : decode cX9_formatOf 41 = .ok (.iaload, 1) := by decide +kernel
theorem dX9_formatOf_42 : decode cX9_formatOf 42 = .ok (.goto 4, 3) := by decide +kernel
theorem dX9_formatOf_45 : decode cX9_formatOf 45 = .ok (.iconst (-1), 1) := by decide +kernel
theorem dX9_formatOf_46 : decode cX9_formatOf 46 = .ok (.ireturn, 1) := by decide +kernel
theorem dX9_stepOf_0 : decode cX9_stepOf 0 = .ok (.iload_n 1, 1) := by decide +kernel
theorem dX9_stepOf_1 : decode cX9_stepOf 1 = .ok (.ifCond .lt 20, 3) := by decide +kernel
theorem dX9_stepOf_4 : decode cX9_stepOf 4 = .ok (.iload_n 1, 1) := by decide +kernel
theorem dX9_stepOf_5 : decode cX9_stepOf 5 = .ok (.aload_n 0, 1) := by decide +kernel
theorem dX9_stepOf_6 : decode cX9_stepOf 6 = .ok (.getfield 45, 3) := by decide +kernel
theorem dX9_stepOf_9 : decode cX9_stepOf 9 = .ok (.if_icmp .ge 12, 3) := by decide +kernel
theorem dX9_stepOf_12 : decode cX9_stepOf 12 = .ok (.aload_n 0, 1) := by decide +kernel
theorem dX9_stepOf_13 : decode cX9_stepOf 13 = .ok (.getfield 15, 3) := by decide +kernel
theorem dX9_stepOf_16 : decode cX9_stepOf 16 = .ok (.iload_n 1, 1) := by decide +kernel
theorem dX9_stepOf_17 : decode cX9_stepOf 17 = .ok (.iaload, 1) := by decide +kernel
theorem dX9_stepOf_18 : decode cX9_stepOf 18 = .ok (.goto 4, 3) := by decide +kernel
theorem dX9_stepOf_21 : decode cX9_stepOf 21 = .ok (.iconst 1, 1) := by decide +kernel
theorem dX9_stepOf_22 : decode cX9_stepOf 22 = .ok (.ireturn, 1) := by decide +kernel
theorem dX9_mostOf_0 : decode cX9_mostOf 0 = .ok (.iload_n 1, 1) := by decide +kernel
theorem dX9_mostOf_1 : decode cX9_mostOf 1 = .ok (.ifCond .lt 20, 3) := by decide +kernel
theorem dX9_mostOf_4 : decode cX9_mostOf 4 = .ok (.iload_n 1, 1) := by decide +kernel
theorem dX9_mostOf_5 : decode cX9_mostOf 5 = .ok (.aload_n 0, 1) := by decide +kernel
theorem dX9_mostOf_6 : decode cX9_mostOf 6 = .ok (.getfield 45, 3) := by decide +kernel
theorem dX9_mostOf_9 : decode cX9_mostOf 9 = .ok (.if_icmp .ge 12, 3) := by decide +kernel
theorem dX9_mostOf_12 : decode cX9_mostOf 12 = .ok (.aload_n 0, 1) := by decide +kernel
theorem dX9_mostOf_13 : decode cX9_mostOf 13 = .ok (.getfield 18, 3) := by decide +kernel
theorem dX9_mostOf_16 : decode cX9_mostOf 16 = .ok (.iload_n 1, 1) := by decide +kernel
theorem dX9_mostOf_17 : decode cX9_mostOf 17 = .ok (.iaload, 1) := by decide +kernel
theorem dX9_mostOf_18 : decode cX9_mostOf 18 = .ok (.goto 4, 3) := by decide +kernel
theorem dX9_mostOf_21 : decode cX9_mostOf 21 = .ok (.iconst 0, 1) := by decide +kernel
theorem dX9_mostOf_22 : decode cX9_mostOf 22 = .ok (.ireturn, 1) := by decide +kernel
theorem dX9_finestFormat_0 : decode cX9_finestFormat 0 = .ok (.iconst 0, 1) := by decide +kernel
theorem dX9_finestFormat_1 : decode cX9_finestFormat 1 = .ok (.istore_n 1, 1) := by decide +kernel
theorem dX9_finestFormat_2 : decode cX9_finestFormat 2 = .ok (.iconst 1, 1) := by decide +kernel
theorem dX9_finestFormat_3 : decode cX9_finestFormat 3 = .ok (.istore_n 2, 1) := by decide +kernel
theorem dX9_finestFormat_4 : decode cX9_finestFormat 4 = .ok (.iload_n 2, 1) := by decide +kernel
theorem dX9_finestFormat_5 : decode cX9_finestFormat 5 = .ok (.aload_n 0, 1) := by decide +kernel
theorem dX9_finestFormat_6 : decode cX9_finestFormat 6 = .ok (.getfield 45, 3) := by decide +kernel
theorem dX9_finestFormat_9 : decode cX9_finestFormat 9 = .ok (.if_icmp .ge 26, 3) := by decide +kernel
theorem dX9_finestFormat_12 : decode cX9_finestFormat 12 = .ok (.aload_n 0, 1) := by decide +kernel
theorem dX9_finestFormat_13 : decode cX9_finestFormat 13 = .ok (.getfield 15, 3) := by decide +kernel
theorem dX9_finestFormat_16 : decode cX9_finestFormat 16 = .ok (.iload_n 2, 1) := by decide +kernel
theorem dX9_finestFormat_17 : decode cX9_finestFormat 17 = .ok (.iaload, 1) := by decide +kernel
theorem dX9_finestFormat_18 : decode cX9_finestFormat 18 = .ok (.aload_n 0, 1) := by decide +kernel
theorem dX9_finestFormat_19 : decode cX9_finestFormat 19 = .ok (.getfield 15, 3) := by decide +kernel
theorem dX9_finestFormat_22 : decode cX9_finestFormat 22 = .ok (.iload_n 1, 1) := by decide +kernel
theorem dX9_finestFormat_23 : decode cX9_finestFormat 23 = .ok (.iaload, 1) := by decide +kernel
theorem dX9_finestFormat_24 : decode cX9_finestFormat 24 = .ok (.if_icmp .ge 5, 3) := by decide +kernel
theorem dX9_finestFormat_27 : decode cX9_finestFormat 27 = .ok (.iload_n 2, 1) := by decide +kernel
theorem dX9_finestFormat_28 : decode cX9_finestFormat 28 = .ok (.istore_n 1, 1) := by decide +kernel
theorem dX9_finestFormat_29 : decode cX9_finestFormat 29 = .ok (.iinc 2 1, 3) := by decide +kernel
theorem dX9_finestFormat_32 : decode cX9_finestFormat 32 = .ok (.goto (-28), 3) := by decide +kernel
theorem dX9_finestFormat_35 : decode cX9_finestFormat 35 = .ok (.iload_n 1, 1) := by decide +kernel
theorem dX9_finestFormat_36 : decode cX9_finestFormat 36 = .ok (.ireturn, 1) := by decide +kernel
theorem dX9_castsOf_0 : decode cX9_castsOf 0 = .ok (.iconst 0, 1) := by decide +kernel
theorem dX9_castsOf_1 : decode cX9_castsOf 1 = .ok (.istore_n 2, 1) := by decide +kernel
theorem dX9_castsOf_2 : decode cX9_castsOf 2 = .ok (.iconst 0, 1) := by decide +kernel
theorem dX9_castsOf_3 : decode cX9_castsOf 3 = .ok (.istore_n 3, 1) := by decide +kernel
theorem dX9_castsOf_4 : decode cX9_castsOf 4 = .ok (.iload_n 3, 1) := by decide +kernel
theorem dX9_castsOf_5 : decode cX9_castsOf 5 = .ok (.aload_n 0, 1) := by decide +kernel
theorem dX9_castsOf_6 : decode cX9_castsOf 6 = .ok (.getfield 27, 3) := by decide +kernel
theorem dX9_castsOf_9 : decode cX9_castsOf 9 = .ok (.getfield 52, 3) := by decide +kernel
theorem dX9_castsOf_12 : decode cX9_castsOf 12 = .ok (.if_icmp .ge 61, 3) := by decide +kernel
theorem dX9_castsOf_15 : decode cX9_castsOf 15 = .ok (.iconst 0, 1) := by decide +kernel
theorem dX9_castsOf_16 : decode cX9_castsOf 16 = .ok (.istore 4, 2) := by decide +kernel
theorem dX9_castsOf_18 : decode cX9_castsOf 18 = .ok (.iload 4, 2) := by decide +kernel
theorem dX9_castsOf_20 : decode cX9_castsOf 20 = .ok (.iconst 2, 1) := by decide +kernel
theorem dX9_castsOf_21 : decode cX9_castsOf 21 = .ok (.if_icmp .ge 46, 3) := by decide +kernel
theorem dX9_castsOf_24 : decode cX9_castsOf 24 = .ok (.aload_n 0, 1) := by decide +kernel
theorem dX9_castsOf_25 : decode cX9_castsOf 25 = .ok (.getfield 27, 3) := by decide +kernel
theorem dX9_castsOf_28 : decode cX9_castsOf 28 = .ok (.iload_n 3, 1) := by decide +kernel
theorem dX9_castsOf_29 : decode cX9_castsOf 29 = .ok (.iload 4, 2) := by decide +kernel
theorem dX9_castsOf_31 : decode cX9_castsOf 31 = .ok (.invokevirtual 86, 3) := by decide +kernel
theorem dX9_castsOf_34 : decode cX9_castsOf 34 = .ok (.istore 5, 2) := by decide +kernel
theorem dX9_castsOf_36 : decode cX9_castsOf 36 = .ok (.iload 5, 2) := by decide +kernel
theorem dX9_castsOf_38 : decode cX9_castsOf 38 = .ok (.iconst (-1), 1) := by decide +kernel
theorem dX9_castsOf_39 : decode cX9_castsOf 39 = .ok (.if_icmp .eq 22, 3) := by decide +kernel
theorem dX9_castsOf_42 : decode cX9_castsOf 42 = .ok (.aload_n 0, 1) := by decide +kernel
theorem dX9_castsOf_43 : decode cX9_castsOf 43 = .ok (.aload_n 1, 1) := by decide +kernel
theorem dX9_castsOf_44 : decode cX9_castsOf 44 = .ok (.iload 5, 2) := by decide +kernel
theorem dX9_castsOf_46 : decode cX9_castsOf 46 = .ok (.invokevirtual 90, 3) := by decide +kernel
theorem dX9_castsOf_49 : decode cX9_castsOf 49 = .ok (.aload_n 0, 1) := by decide +kernel
theorem dX9_castsOf_50 : decode cX9_castsOf 50 = .ok (.aload_n 1, 1) := by decide +kernel
theorem dX9_castsOf_51 : decode cX9_castsOf 51 = .ok (.iload_n 3, 1) := by decide +kernel
theorem dX9_castsOf_52 : decode cX9_castsOf 52 = .ok (.invokevirtual 90, 3) := by decide +kernel
theorem dX9_castsOf_55 : decode cX9_castsOf 55 = .ok (.if_icmp .eq 6, 3) := by decide +kernel
theorem dX9_castsOf_58 : decode cX9_castsOf 58 = .ok (.iinc 2 1, 3) := by decide +kernel
theorem dX9_castsOf_61 : decode cX9_castsOf 61 = .ok (.iinc 4 1, 3) := by decide +kernel
theorem dX9_castsOf_64 : decode cX9_castsOf 64 = .ok (.goto (-46), 3) := by decide +kernel
theorem dX9_castsOf_67 : decode cX9_castsOf 67 = .ok (.iinc 3 1, 3) := by decide +kernel
theorem dX9_castsOf_70 : decode cX9_castsOf 70 = .ok (.goto (-66), 3) := by decide +kernel
theorem dX9_castsOf_73 : decode cX9_castsOf 73 = .ok (.iload_n 2, 1) := by decide +kernel
theorem dX9_castsOf_74 : decode cX9_castsOf 74 = .ok (.ireturn, 1) := by decide +kernel
theorem dX9_priceOf_0 : decode cX9_priceOf 0 = .ok (.aload_n 0, 1) := by decide +kernel
theorem dX9_priceOf_1 : decode cX9_priceOf 1 = .ok (.getfield 49, 3) := by decide +kernel
theorem dX9_priceOf_4 : decode cX9_priceOf 4 = .ok (.aload_n 0, 1) := by decide +kernel
theorem dX9_priceOf_5 : decode cX9_priceOf 5 = .ok (.aload_n 1, 1) := by decide +kernel
theorem dX9_priceOf_6 : decode cX9_priceOf 6 = .ok (.invokevirtual 94, 3) := by decide +kernel
theorem dX9_priceOf_9 : decode cX9_priceOf 9 = .ok (.imul, 1) := by decide +kernel
theorem dX9_priceOf_10 : decode cX9_priceOf 10 = .ok (.istore_n 2, 1) := by decide +kernel
theorem dX9_priceOf_11 : decode cX9_priceOf 11 = .ok (.iconst 0, 1) := by decide +kernel
theorem dX9_priceOf_12 : decode cX9_priceOf 12 = .ok (.istore_n 3, 1) := by decide +kernel
theorem dX9_priceOf_13 : decode cX9_priceOf 13 = .ok (.iload_n 3, 1) := by decide +kernel
theorem dX9_priceOf_14 : decode cX9_priceOf 14 = .ok (.aload_n 0, 1) := by decide +kernel
theorem dX9_priceOf_15 : decode cX9_priceOf 15 = .ok (.getfield 27, 3) := by decide +kernel
theorem dX9_priceOf_18 : decode cX9_priceOf 18 = .ok (.getfield 52, 3) := by decide +kernel
theorem dX9_priceOf_21 : decode cX9_priceOf 21 = .ok (.if_icmp .ge 40, 3) := by decide +kernel
theorem dX9_priceOf_24 : decode cX9_priceOf 24 = .ok (.aload_n 0, 1) := by decide +kernel
theorem dX9_priceOf_25 : decode cX9_priceOf 25 = .ok (.aload_n 1, 1) := by decide +kernel
theorem dX9_priceOf_26 : decode cX9_priceOf 26 = .ok (.iload_n 3, 1) := by decide +kernel
theorem dX9_priceOf_27 : decode cX9_priceOf 27 = .ok (.invokevirtual 90, 3) := by decide +kernel
theorem dX9_priceOf_30 : decode cX9_priceOf 30 = .ok (.istore 4, 2) := by decide +kernel
theorem dX9_priceOf_32 : decode cX9_priceOf 32 = .ok (.iload_n 2, 1) := by decide +kernel
theorem dX9_priceOf_33 : decode cX9_priceOf 33 = .ok (.aload_n 0, 1) := by decide +kernel
theorem dX9_priceOf_34 : decode cX9_priceOf 34 = .ok (.iload 4, 2) := by decide +kernel
theorem dX9_priceOf_36 : decode cX9_priceOf 36 = .ok (.invokevirtual 98, 3) := by decide +kernel
theorem dX9_priceOf_39 : decode cX9_priceOf 39 = .ok (.ifCond .eq 13, 3) := by decide +kernel
theorem dX9_priceOf_42 : decode cX9_priceOf 42 = .ok (.aload_n 0, 1) := by decide +kernel
theorem dX9_priceOf_43 : decode cX9_priceOf 43 = .ok (.getfield 21, 3) := by decide +kernel
theorem dX9_priceOf_46 : decode cX9_priceOf 46 = .ok (.iload 4, 2) := by decide +kernel
theorem dX9_priceOf_48 : decode cX9_priceOf 48 = .ok (.iaload, 1) := by decide +kernel
theorem dX9_priceOf_49 : decode cX9_priceOf 49 = .ok (.goto 4, 3) := by decide +kernel
theorem dX9_priceOf_52 : decode cX9_priceOf 52 = .ok (.iconst 0, 1) := by decide +kernel
theorem dX9_priceOf_53 : decode cX9_priceOf 53 = .ok (.iadd, 1) := by decide +kernel
theorem dX9_priceOf_54 : decode cX9_priceOf 54 = .ok (.istore_n 2, 1) := by decide +kernel
theorem dX9_priceOf_55 : decode cX9_priceOf 55 = .ok (.iinc 3 1, 3) := by decide +kernel
theorem dX9_priceOf_58 : decode cX9_priceOf 58 = .ok (.goto (-45), 3) := by decide +kernel
theorem dX9_priceOf_61 : decode cX9_priceOf 61 = .ok (.iload_n 2, 1) := by decide +kernel
theorem dX9_priceOf_62 : decode cX9_priceOf 62 = .ok (.ireturn, 1) := by decide +kernel
theorem dX11_refuse_0 : decode cX11_refuse 0 = .ok (.iload_n 1, 1) := by decide +kernel
theorem dX11_refuse_1 : decode cX11_refuse 1 = .ok (.ifCond .lt 18, 3) := by decide +kernel
theorem dX11_refuse_4 : decode cX11_refuse 4 = .ok (.iload_n 1, 1) := by decide +kernel
theorem dX11_refuse_5 : decode cX11_refuse 5 = .ok (.iconst 5, 1) := by decide +kernel
theorem dX11_refuse_6 : decode cX11_refuse 6 = .ok (.if_icmp .ge 13, 3) := by decide +kernel
theorem dX11_refuse_9 : decode cX11_refuse 9 = .ok (.aload_n 0, 1) := by decide +kernel
theorem dX11_refuse_10 : decode cX11_refuse 10 = .ok (.getfield 13, 3) := by decide +kernel
theorem dX11_refuse_13 : decode cX11_refuse 13 = .ok (.iload_n 1, 1) := by decide +kernel
theorem dX11_refuse_14 : decode cX11_refuse 14 = .ok (.dup2, 1) := by decide +kernel
theorem dX11_refuse_15 : decode cX11_refuse 15 = .ok (.iaload, 1) := by decide +kernel
theorem dX11_refuse_16 : decode cX11_refuse 16 = .ok (.iconst 1, 1) := by decide +kernel
theorem dX11_refuse_17 : decode cX11_refuse 17 = .ok (.iadd, 1) := by decide +kernel
theorem dX11_refuse_18 : decode cX11_refuse 18 = .ok (.iastore, 1) := by decide +kernel
theorem dX11_refuse_19 : decode cX11_refuse 19 = .ok (.iconst (-1), 1) := by decide +kernel
theorem dX11_refuse_20 : decode cX11_refuse 20 = .ok (.ireturn, 1) := by decide +kernel
theorem dX11_putBytes_0 : decode cX11_putBytes 0 = .ok (.bipush 24, 2) := by decide +kernel
theorem dX11_putBytes_2 : decode cX11_putBytes 2 = .ok (.istore_n 2, 1) := by decide +kernel
theorem dX11_putBytes_3 : decode cX11_putBytes 3 = .ok (.iload_n 2, 1) := by decide +kernel
theorem dX11_putBytes_4 : decode cX11_putBytes 4 = .ok (.ifCond .lt 42, 3) := by decide +kernel
theorem dX11_putBytes_7 : decode cX11_putBytes 7 = .ok (.aload_n 0, 1) := by decide +kernel
theorem dX11_putBytes_8 : decode cX11_putBytes 8 = .ok (.getfield 89, 3) := by decide +kernel
theorem dX11_putBytes_11 : decode cX11_putBytes 11 = .ok (.sipush 1200, 3) := by decide +kernel
theorem dX11_putBytes_14 : decode cX11_putBytes 14 = .ok (.if_icmp .ge 26, 3) := by decide +kernel
theorem dX11_putBytes_17 : decode cX11_putBytes 17 = .ok (.aload_n 0, 1) := by decide +kernel
theorem dX11_putBytes_18 : decode cX11_putBytes 18 = .ok (.getfield 9, 3) := by decide +kernel
theorem dX11_putBytes_21 : decode cX11_putBytes 21 = .ok (.aload_n 0, 1) := by decide +kernel
theorem dX11_putBytes_22 : decode cX11_putBytes 22 = .ok (.getfield 89, 3) := by decide +kernel
theorem dX11_putBytes_25 : decode cX11_putBytes 25 = .ok (.iload_n 1, 1) := by decide +kernel
theorem dX11_putBytes_26 : decode cX11_putBytes 26 = .ok (.iload_n 2, 1) := by decide +kernel
theorem dX11_putBytes_27 : decode cX11_putBytes 27 = .ok (.ishr, 1) := by decide +kernel
theorem dX11_putBytes_28 : decode cX11_putBytes 28 = .ok (.i2b, 1) := by decide +kernel
theorem dX11_putBytes_29 : decode cX11_putBytes 29 = .ok (.bastore, 1) := by decide +kernel
theorem dX11_putBytes_30 : decode cX11_putBytes 30 = .ok (.aload_n 0, 1) := by decide +kernel
theorem dX11_putBytes_31 : decode cX11_putBytes 31 = .ok (.dup, 1) := by decide +kernel
theorem dX11_putBytes_32 : decode cX11_putBytes 32 = .ok (.getfield 89, 3) := by decide +kernel
theorem dX11_putBytes_35 : decode cX11_putBytes 35 = .ok (.iconst 1, 1) := by decide +kernel
theorem dX11_putBytes_36 : decode cX11_putBytes 36 = .ok (.iadd, 1) := by decide +kernel
theorem dX11_putBytes_37 : decode cX11_putBytes 37 = .ok (.putfield 89, 3) := by decide +kernel
theorem dX11_putBytes_40 : decode cX11_putBytes 40 = .ok (.iinc 2 (-8), 3) := by decide +kernel
theorem dX11_putBytes_43 : decode cX11_putBytes 43 = .ok (.goto (-40), 3) := by decide +kernel
theorem dX11_putBytes_46 : decode cX11_putBytes 46 = .ok (.return_, 1) := by decide +kernel
