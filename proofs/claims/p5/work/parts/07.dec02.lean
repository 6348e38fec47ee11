theorem dX12_uses_24 : decode cX12_uses 24 = .ok (.iaload, 1) := by decide +kernel
theorem dX12_uses_25 : decode cX12_uses 25 = .ok (.if_icmp .ge 79, 3) := by decide +kernel
theorem dX12_uses_28 : decode cX12_uses 28 = .ok (.aload_n 0, 1) := by decide +kernel
theorem dX12_uses_29 : decode cX12_uses 29 = .ok (.getfield 71, 3) := by decide +kernel
theorem dX12_uses_32 : decode cX12_uses 32 = .ok (.iload_n 3, 1) := by decide +kernel
theorem dX12_uses_33 : decode cX12_uses 33 = .ok (.iaload, 1) := by decide +kernel
theorem dX12_uses_34 : decode cX12_uses 34 = .ok (.iconst (-1), 1) := by decide +kernel
theorem dX12_uses_35 : decode cX12_uses 35 = .ok (.if_icmp .eq 17, 3) := by decide +kernel
theorem dX12_uses_38 : decode cX12_uses 38 = .ok (.iload_n 2, 1) := by decide +kernel
theorem dX12_uses_39 : decode cX12_uses 39 = .ok (.aload_n 0, 1) := by decide +kernel
theorem dX12_uses_40 : decode cX12_uses 40 = .ok (.getfield 71, 3) := by decide +kernel
theorem dX12_uses_43 : decode cX12_uses 43 = .ok (.iload_n 3, 1) := by decide +kernel
theorem dX12_uses_44 : decode cX12_uses 44 = .ok (.iaload, 1) := by decide +kernel
theorem dX12_uses_45 : decode cX12_uses 45 = .ok (.ishr, 1) := by decide +kernel
theorem dX12_uses_46 : decode cX12_uses 46 = .ok (.iconst 1, 1) := by decide +kernel
theorem dX12_uses_47 : decode cX12_uses 47 = .ok (.iand, 1) := by decide +kernel
theorem dX12_uses_48 : decode cX12_uses 48 = .ok (.iconst 1, 1) := by decide +kernel
theorem dX12_uses_49 : decode cX12_uses 49 = .ok (.if_icmp .eq 27, 3) := by decide +kernel
theorem dX12_uses_52 : decode cX12_uses 52 = .ok (.aload_n 0, 1) := by decide +kernel
theorem dX12_uses_53 : decode cX12_uses 53 = .ok (.getfield 74, 3) := by decide +kernel
theorem dX12_uses_56 : decode cX12_uses 56 = .ok (.iload_n 3, 1) := by decide +kernel
theorem dX12_uses_57 : decode cX12_uses 57 = .ok (.iaload, 1) := by decide +kernel
theorem dX12_uses_58 : decode cX12_uses 58 = .ok (.iconst (-1), 1) := by decide +kernel
theorem dX12_uses_59 : decode cX12_uses 59 = .ok (.if_icmp .eq 21, 3) := by decide +kernel
theorem dX12_uses_62 : decode cX12_uses 62 = .ok (.iload_n 2, 1) := by decide +kernel
theorem dX12_uses_63 : decode cX12_uses 63 = .ok (.aload_n 0, 1) := by decide +kernel
theorem dX12_uses_64 : decode cX12_uses 64 = .ok (.getfield 74, 3) := by decide +kernel
theorem dX12_uses_67 : decode cX12_uses 67 = .ok (.iload_n 3, 1) := by decide +kernel
theorem dX12_uses_68 : decode cX12_uses 68 = .ok (.iaload, 1) := by decide +kernel
theorem dX12_uses_69 : decode cX12_uses 69 = .ok (.ishr, 1) := by decide +kernel
theorem dX12_uses_70 : decode cX12_uses 70 = .ok (.iconst 1, 1) := by decide +kernel
theorem dX12_uses_71 : decode cX12_uses 71 = .ok (.iand, 1) := by decide +kernel
theorem dX12_uses_72 : decode cX12_uses 72 = .ok (.iconst 1, 1) := by decide +kernel
theorem dX12_uses_73 : decode cX12_uses 73 = .ok (.if_icmp .ne 7, 3) := by decide +kernel
theorem dX12_uses_76 : decode cX12_uses 76 = .ok (.iconst 1, 1) := by decide +kernel
theorem dX12_uses_77 : decode cX12_uses 77 = .ok (.goto 4, 3) := by decide +kernel
theorem dX12_uses_80 : decode cX12_uses 80 = .ok (.iconst 0, 1) := by decide +kernel
theorem dX12_uses_81 : decode cX12_uses 81 = .ok (.istore 4, 2) := by decide +kernel
theorem dX12_uses_83 : decode cX12_uses 83 = .ok (.iload_n 2, 1) := by decide +kernel
theorem dX12_uses_84 : decode cX12_uses 84 = .ok (.iload 4, 2) := by decide +kernel
theorem dX12_uses_86 : decode cX12_uses 86 = .ok (.ifCond .eq 9, 3) := by decide +kernel
theorem dX12_uses_89 : decode cX12_uses 89 = .ok (.iconst 1, 1) := by decide +kernel
theorem dX12_uses_90 : decode cX12_uses 90 = .ok (.iload_n 3, 1) := by decide +kernel
theorem dX12_uses_91 : decode cX12_uses 91 = .ok (.ishl, 1) := by decide +kernel
theorem dX12_uses_92 : decode cX12_uses 92 = .ok (.goto 4, 3) := by decide +kernel
theorem dX12_uses_95 : decode cX12_uses 95 = .ok (.iconst 0, 1) := by decide +kernel
theorem dX12_uses_96 : decode cX12_uses 96 = .ok (.ior, 1) := by decide +kernel
theorem dX12_uses_97 : decode cX12_uses 97 = .ok (.istore_n 2, 1) := by decide +kernel
theorem dX12_uses_98 : decode cX12_uses 98 = .ok (.iinc 3 1, 3) := by decide +kernel
theorem dX12_uses_101 : decode cX12_uses 101 = .ok (.goto (-83), 3) := by decide +kernel
theorem dX12_uses_104 : decode cX12_uses 104 = .ok (.iload_n 2, 1) := by decide +kernel
theorem dX12_uses_105 : decode cX12_uses 105 = .ok (.iconst 1, 1) := by decide +kernel
theorem dX12_uses_106 : decode cX12_uses 106 = .ok (.iload_n 1, 1) := by decide +kernel
theorem dX12_uses_107 : decode cX12_uses 107 = .ok (.ishl, 1) := by decide +kernel
theorem dX12_uses_108 : decode cX12_uses 108 = .ok (.iconst (-1), 1) := by decide +kernel
theorem dX12_uses_109 : decode cX12_uses 109 = .ok (.ixor, 1) := by decide +kernel
theorem dX12_uses_110 : decode cX12_uses 110 = .ok (.iand, 1) := by decide +kernel
theorem dX12_uses_111 : decode cX12_uses 111 = .ok (.ireturn, 1) := by decide +kernel
theorem dX12_deepOf_0 : decode cX12_deepOf 0 = .ok (.iload_n 1, 1) := by decide +kernel
theorem dX12_deepOf_1 : decode cX12_deepOf 1 = .ok (.iconst (-1), 1) := by decide +kernel
theorem dX12_deepOf_2 : decode cX12_deepOf 2 = .ok (.if_icmp .ne 7, 3) := by decide +kernel
theorem dX12_deepOf_5 : decode cX12_deepOf 5 = .ok (.iconst 0, 1) := by decide +kernel
theorem dX12_deepOf_6 : decode cX12_deepOf 6 = .ok (.goto 9, 3) := by decide +kernel
theorem dX12_deepOf_9 : decode cX12_deepOf 9 = .ok (.aload_n 0, 1) := by decide +kernel
theorem dX12_deepOf_10 : decode cX12_deepOf 10 = .ok (.getfield 122, 3) := by decide +kernel
theorem dX12_deepOf_13 : decode cX12_deepOf 13 = .ok (.iload_n 1, 1) := by decide +kernel
theorem dX12_deepOf_14 : decode cX12_deepOf 14 = .ok (.iaload, 1) := by decide +kernel
theorem dX12_deepOf_15 : decode cX12_deepOf 15 = .ok (.ireturn, 1) := by decide +kernel
theorem dX12_depth_0 : decode cX12_depth 0 = .ok (.aload_n 0, 1) := by decide +kernel
theorem dX12_depth_1 : decode cX12_depth 1 = .ok (.iload_n 1, 1) := by decide +kernel
theorem dX12_depth_2 : decode cX12_depth 2 = .ok (.invokevirtual 373, 3) := by decide +kernel
theorem dX12_depth_5 : decode cX12_depth 5 = .ok (.ifCond .ne 5, 3) := by decide +kernel
theorem dX12_depth_8 : decode cX12_depth 8 = .ok (.iconst (-1), 1) := by decide +kernel
theorem dX12_depth_9 : decode cX12_depth 9 = .ok (.ireturn, 1) := by decide +kernel
theorem dX12_depth_10 : decode cX12_depth 10 = .ok (.iconst 0, 1) := by decide +kernel
theorem dX12_depth_11 : decode cX12_depth 11 = .ok (.istore_n 2, 1) := by decide +kernel
theorem dX12_depth_12 : decode cX12_depth 12 = .ok (.iload_n 2, 1) := by decide +kernel
theorem dX12_depth_13 : decode cX12_depth 13 = .ok (.iload_n 1, 1) := by decide +kernel
theorem dX12_depth_14 : decode cX12_depth 14 = .ok (.if_icmp .gt 65, 3) := by decide +kernel
theorem dX12_depth_17 : decode cX12_depth 17 = .ok (.aload_n 0, 1) := by decide +kernel
theorem dX12_depth_18 : decode cX12_depth 18 = .ok (.aload_n 0, 1) := by decide +kernel
theorem dX12_depth_19 : decode cX12_depth 19 = .ok (.getfield 71, 3) := by decide +kernel
theorem dX12_depth_22 : decode cX12_depth 22 = .ok (.iload_n 2, 1) := by decide +kernel
theorem dX12_depth_23 : decode cX12_depth 23 = .ok (.iaload, 1) := by decide +kernel
theorem dX12_depth_24 : decode cX12_depth 24 = .ok (.invokevirtual 424, 3) := by decide +kernel
theorem dX12_depth_27 : decode cX12_depth 27 = .ok (.istore_n 3, 1) := by decide +kernel
theorem dX12_depth_28 : decode cX12_depth 28 = .ok (.aload_n 0, 1) := by decide +kernel
theorem dX12_depth_29 : decode cX12_depth 29 = .ok (.aload_n 0, 1) := by decide +kernel
theorem dX12_depth_30 : decode cX12_depth 30 = .ok (.getfield 74, 3) := by decide +kernel
theorem dX12_depth_33 : decode cX12_depth 33 = .ok (.iload_n 2, 1) := by decide +kernel
theorem dX12_depth_34 : decode cX12_depth 34 = .ok (.iaload, 1) := by decide +kernel
theorem dX12_depth_35 : decode cX12_depth 35 = .ok (.invokevirtual 424, 3) := by decide +kernel
theorem dX12_depth_38 : decode cX12_depth 38 = .ok (.istore 4, 2) := by decide +kernel
theorem dX12_depth_40 : decode cX12_depth 40 = .ok (.aload_n 0, 1) := by decide +kernel
theorem dX12_depth_41 : decode cX12_depth 41 = .ok (.getfield 122, 3) := by decide +kernel
theorem dX12_depth_44 : decode cX12_depth 44 = .ok (.iload_n 2, 1) := by decide +kernel
theorem dX12_depth_45 : decode cX12_depth 45 = .ok (.aload_n 0, 1) := by decide +kernel
theorem dX12_depth_46 : decode cX12_depth 46 = .ok (.getfield 68, 3) := by decide +kernel
theorem dX12_depth_49 : decode cX12_depth 49 = .ok (.iload_n 2, 1) := by decide +kernel
theorem dX12_depth_50 : decode cX12_depth 50 = .ok (.iaload, 1) := by decide +kernel
theorem dX12_depth_51 : decode cX12_depth 51 = .ok (.ifCond .ne 7, 3) := by decide +kernel
theorem dX12_depth_54 : decode cX12_depth 54 = .ok (.iconst 0, 1) := by decide +kernel
theorem dX12_depth_55 : decode cX12_depth 55 = .ok (.goto 17, 3) := by decide +kernel
theorem dX12_depth_58 : decode cX12_depth 58 = .ok (.iload_n 3, 1) := by decide +kernel
theorem dX12_depth_59 : decode cX12_depth 59 = .ok (.iload 4, 2) := by decide +kernel
theorem dX12_depth_61 : decode cX12_depth 61 = .ok (.if_icmp .le 7, 3) := by decide +kernel
theorem dX12_depth_64 : decode cX12_depth 64 = .ok (.iload_n 3, 1) := by decide +kernel
theorem dX12_depth_65 : decode cX12_depth 65 = .ok (.goto 5, 3) := by decide +kernel
theorem dX12_depth_68 : decode cX12_depth 68 = .ok (.iload 4, 2) := by decide +kernel
theorem dX12_depth_70 : decode cX12_depth 70 = .ok (.iconst 1, 1) := by decide +kernel
theorem dX12_depth_71 : decode cX12_depth 71 = .ok (.iadd, 1) := by decide +kernel
theorem dX12_depth_72 : decode cX12_depth 72 = .ok (.iastore, 1) := by decide +kernel
theorem dX12_depth_73 : decode cX12_depth 73 = .ok (.iinc 2 1, 3) := by decide +kernel
theorem dX12_depth_76 : decode cX12_depth 76 = .ok (.goto (-64), 3) := by decide +kernel
theorem dX12_depth_79 : decode cX12_depth 79 = .ok (.aload_n 0, 1) := by decide +kernel
theorem dX12_depth_80 : decode cX12_depth 80 = .ok (.getfield 122, 3) := by decide +kernel
theorem dX12_depth_83 : decode cX12_depth 83 = .ok (.iload_n 1, 1) := by decide +kernel
theorem dX12_depth_84 : decode cX12_depth 84 = .ok (.iaload, 1) := by decide +kernel
theorem dX12_depth_85 : decode cX12_depth 85 = .ok (.ireturn, 1) := by decide +kernel
theorem dX12_beginsChoice_0 : decode cX12_beginsChoice 0 = .ok (.aload_n 0, 1) := by decide +kernel
theorem dX12_beginsChoice_1 : decode cX12_beginsChoice 1 = .ok (.iconst 1, 1) := by decide +kernel
theorem dX12_beginsChoice_2 : decode cX12_beginsChoice 2 = .ok (.putfield 128, 3) := by decide +kernel
theorem dX12_beginsChoice_5 : decode cX12_beginsChoice 5 = .ok (.iconst 0, 1) := by decide +kernel
theorem dX12_beginsChoice_6 : decode cX12_beginsChoice 6 = .ok (.istore_n 1, 1) := by decide +kernel
theorem dX12_beginsChoice_7 : decode cX12_beginsChoice 7 = .ok (.iload_n 1, 1) := by decide +kernel
theorem dX12_beginsChoice_8 : decode cX12_beginsChoice 8 = .ok (.aload_n 0, 1) := by decide +kernel
theorem dX12_beginsChoice_9 : decode cX12_beginsChoice 9 = .ok (.getfield 62, 3) := by decide +kernel
theorem dX12_beginsChoice_12 : decode cX12_beginsChoice 12 = .ok (.iconst 0, 1) := by decide +kernel
theorem dX12_beginsChoice_13 : decode cX12_beginsChoice 13 = .ok (.iaload, 1) := by decide +kernel
theorem dX12_beginsChoice_14 : decode cX12_beginsChoice 14 = .ok (.if_icmp .ge 16, 3) := by decide +kernel
theorem dX12_beginsChoice_17 : decode cX12_beginsChoice 17 = .ok (.aload_n 0, 1) := by decide +kernel
theorem dX12_beginsChoice_18 : decode cX12_beginsChoice 18 = .ok (.getfield 125, 3) := by decide +kernel
theorem dX12_beginsChoice_21 : decode cX12_beginsChoice 21 = .ok (.iload_n 1, 1) := by decide +kernel
theorem dX12_beginsChoice_22 : decode cX12_beginsChoice 22 = .ok (.iconst 0, 1) := by decide +kernel
theorem dX12_beginsChoice_23 : decode cX12_beginsChoice 23 = .ok (.iastore, 1) := by decide +kernel
theorem dX12_beginsChoice_24 : decode cX12_beginsChoice 24 = .ok (.iinc 1 1, 3) := by decide +kernel
theorem dX12_beginsChoice_27 : decode cX12_beginsChoice 27 = .ok (.goto (-20), 3) := by decide +kernel
theorem dX12_beginsChoice_30 : decode cX12_beginsChoice 30 = .ok (.iconst 0, 1) := by decide +kernel
theorem dX12_beginsChoice_31 : decode cX12_beginsChoice 31 = .ok (.istore_n 1, 1) := by decide +kernel
theorem dX12_beginsChoice_32 : decode cX12_beginsChoice 32 = .ok (.iload_n 1, 1) := by decide +kernel
theorem dX12_beginsChoice_33 : decode cX12_beginsChoice 33 = .ok (.aload_n 0, 1) := by decide +kernel
theorem dX12_beginsChoice_34 : decode cX12_beginsChoice 34 = .ok (.getfield 62, 3) := by decide +kernel
theorem dX12_beginsChoice_37 : decode cX12_beginsChoice 37 = .ok (.iconst 0, 1) := by decide +kernel
theorem dX12_beginsChoice_38 : decode cX12_beginsChoice 38 = .ok (.iaload, 1) := by decide +kernel
theorem dX12_beginsChoice_39 : decode cX12_beginsChoice 39 = .ok (.if_icmp .ge 111, 3) := by decide +kernel
theorem dX12_beginsChoice_42 : decode cX12_beginsChoice 42 = .ok (.aload_n 0, 1) := by decide +kernel
theorem dX12_beginsChoice_43 : decode cX12_beginsChoice 43 = .ok (.getfield 87, 3) := by decide +kernel
theorem dX12_beginsChoice_46 : decode cX12_beginsChoice 46 = .ok (.iload_n 1, 1) := by decide +kernel
theorem dX12_beginsChoice_47 : decode cX12_beginsChoice 47 = .ok (.iaload, 1) := by decide +kernel
theorem dX12_beginsChoice_48 : decode cX12_beginsChoice 48 = .ok (.iconst (-1), 1) := by decide +kernel
theorem dX12_beginsChoice_49 : decode cX12_beginsChoice 49 = .ok (.if_icmp .ne 6, 3) := by decide +kernel
theorem dX12_beginsChoice_52 : decode cX12_beginsChoice 52 = .ok (.goto 92, 3) := by decide +kernel
theorem dX12_beginsChoice_55 : decode cX12_beginsChoice 55 = .ok (.iconst 0, 1) := by decide +kernel
theorem dX12_beginsChoice_56 : decode cX12_beginsChoice 56 = .ok (.istore_n 2, 1) := by decide +kernel
theorem dX12_beginsChoice_57 : decode cX12_beginsChoice 57 = .ok (.iload_n 2, 1) := by decide +kernel
theorem dX12_beginsChoice_58 : decode cX12_beginsChoice 58 = .ok (.aload_n 0, 1) := by decide +kernel
theorem dX12_beginsChoice_59 : decode cX12_beginsChoice 59 = .ok (.getfield 62, 3) := by decide +kernel
theorem dX12_beginsChoice_62 : decode cX12_beginsChoice 62 = .ok (.iconst 0, 1) := by decide +kernel
theorem dX12_beginsChoice_63 : decode cX12_beginsChoice 63 = .ok (.iaload, 1) := by decide +kernel
theorem dX12_beginsChoice_64 : decode cX12_beginsChoice 64 = .ok (.if_icmp .ge 80, 3) := by decide +kernel
theorem dX12_beginsChoice_67 : decode cX12_beginsChoice 67 = .ok (.aload_n 0, 1) := by decide +kernel
theorem dX12_beginsChoice_68 : decode cX12_beginsChoice 68 = .ok (.getfield 93, 3) := by decide +kernel
theorem dX12_beginsChoice_71 : decode cX12_beginsChoice 71 = .ok (.iload_n 2, 1) := by decide +kernel
theorem dX12_beginsChoice_72 : decode cX12_beginsChoice 72 = .ok (.iaload, 1) := by decide +kernel
theorem dX12_beginsChoice_73 : decode cX12_beginsChoice 73 = .ok (.aload_n 0, 1) := by decide +kernel
theorem dX12_beginsChoice_74 : decode cX12_beginsChoice 74 = .ok (.getfield 93, 3) := by decide +kernel
theorem dX12_beginsChoice_77 : decode cX12_beginsChoice 77 = .ok (.iload_n 1, 1) := by decide +kernel
theorem dX12_beginsChoice_78 : decode cX12_beginsChoice 78 = .ok (.iaload, 1) := by decide +kernel
theorem dX12_beginsChoice_79 : decode cX12_beginsChoice 79 = .ok (.if_icmp .eq 6, 3) := by decide +kernel
theorem dX12_beginsChoice_82 : decode cX12_beginsChoice 82 = .ok (.goto 56, 3) := by decide +kernel
theorem dX12_beginsChoice_85 : decode cX12_beginsChoice 85 = .ok (.aload_n 0, 1) := by decide +kernel
theorem dX12_beginsChoice_86 : decode cX12_beginsChoice 86 = .ok (.getfield 125, 3) := by decide +kernel
theorem dX12_beginsChoice_89 : decode cX12_beginsChoice 89 = .ok (.iload_n 2, 1) := by decide +kernel
theorem dX12_beginsChoice_90 : decode cX12_beginsChoice 90 = .ok (.aload_n 0, 1) := by decide +kernel
theorem dX12_beginsChoice_91 : decode cX12_beginsChoice 91 = .ok (.getfield 87, 3) := by decide +kernel
theorem dX12_beginsChoice_94 : decode cX12_beginsChoice 94 = .ok (.iload_n 1, 1) := by decide +kernel
theorem dX12_beginsChoice_95 : decode cX12_beginsChoice 95 = .ok (.iaload, 1) := by decide +kernel
theorem dX12_beginsChoice_96 : decode cX12_beginsChoice 96 = .ok (.iastore, 1) := by decide +kernel
theorem dX12_beginsChoice_97 : decode cX12_beginsChoice 97 = .ok (.aload_n 0, 1) := by decide +kernel
theorem dX12_beginsChoice_98 : decode cX12_beginsChoice 98 = .ok (.aload_n 0, 1) := by decide +kernel
theorem dX12_beginsChoice_99 : decode cX12_beginsChoice 99 = .ok (.getfield 128, 3) := by decide +kernel
theorem dX12_beginsChoice_102 : decode cX12_beginsChoice 102 = .ok (.ifCond .eq 32, 3) := by decide +kernel
theorem dX12_beginsChoice_105 : decode cX12_beginsChoice 105 = .ok (.aload_n 0, 1) := by decide +kernel
theorem dX12_beginsChoice_106 : decode cX12_beginsChoice 106 = .ok (.getfield 87, 3) := by decide +kernel
theorem dX12_beginsChoice_109 : decode cX12_beginsChoice 109 = .ok (.iload_n 2, 1) := by decide +kernel
theorem dX12_beginsChoice_110 : decode cX12_beginsChoice 110 = .ok (.iaload, 1) := by decide +kernel
theorem dX12_beginsChoice_111 : decode cX12_beginsChoice 111 = .ok (.iconst (-1), 1) := by decide +kernel
theorem dX12_beginsChoice_112 : decode cX12_beginsChoice 112 = .ok (.if_icmp .eq 18, 3) := by decide +kernel
theorem dX12_beginsChoice_115 : decode cX12_beginsChoice 115 = .ok (.aload_n 0, 1) := by decide +kernel
theorem dX12_beginsChoice_116 : decode cX12_beginsChoice 116 = .ok (.getfield 87, 3) := by decide +kernel
theorem dX12_beginsChoice_119 : decode cX12_beginsChoice 119 = .ok (.iload_n 2, 1) := by decide +kernel
theorem dX12_beginsChoice_120 : decode cX12_beginsChoice 120 = .ok (.iaload, 1) := by decide +kernel
theorem dX12_beginsChoice_121 : decode cX12_beginsChoice 121 = .ok (.aload_n 0, 1) := by decide +kernel
theorem dX12_beginsChoice_122 : decode cX12_beginsChoice 122 = .ok (.getfield 87, 3) := by decide +kernel
theorem dX12_beginsChoice_125 : decode cX12_beginsChoice 125 = .ok (.iload_n 1, 1) := by decide +kernel
theorem dX12_beginsChoice_126 : decode cX12_beginsChoice 126 = .ok (.iaload, 1) := by decide +kernel
theorem dX12_beginsChoice_127 : decode cX12_beginsChoice 127 = .ok (.if_icmp .ne 7, 3) := by decide +kernel
theorem dX12_beginsChoice_130 : decode cX12_beginsChoice 130 = .ok (.iconst 1, 1) := by decide +kernel
theorem dX12_beginsChoice_131 : decode cX12_beginsChoice 131 = .ok (.goto 4, 3) := by decide +kernel
theorem dX12_beginsChoice_134 : decode cX12_beginsChoice 134 = .ok (.iconst 0, 1) := by decide +kernel
theorem dX12_beginsChoice_135 : decode cX12_beginsChoice 135 = .ok (.putfield 128, 3) := by decide +kernel
theorem dX12_beginsChoice_138 : decode cX12_beginsChoice 138 = .ok (.iinc 2 1, 3) := by decide +kernel
theorem dX12_beginsChoice_141 : decode cX12_beginsChoice 141 = .ok (.goto (-84), 3) := by decide +kernel
theorem dX12_beginsChoice_144 : decode cX12_beginsChoice 144 = .ok (.iinc 1 1, 3) := by decide +kernel
theorem dX12_beginsChoice_147 : decode cX12_beginsChoice 147 = .ok (.goto (-115), 3) := by decide +kernel
theorem dX12_beginsChoice_150 : decode cX12_beginsChoice 150 = .ok (.return_, 1) := by decide +kernel
theorem dX12_triesHand_0 : decode cX12_triesHand 0 = .ok (.iconst 0, 1) := by decide +kernel
theorem dX12_triesHand_1 : decode cX12_triesHand 1 = .ok (.istore_n 1, 1) := by decide +kernel
theorem dX12_triesHand_2 : decode cX12_triesHand 2 = .ok (.iload_n 1, 1) := by decide +kernel
theorem dX12_triesHand_3 : decode cX12_triesHand 3 = .ok (.aload_n 0, 1) := by decide +kernel
theorem dX12_triesHand_4 : decode cX12_triesHand 4 = .ok (.getfield 62, 3) := by decide +kernel
theorem dX12_triesHand_7 : decode cX12_triesHand 7 = .ok (.iconst 0, 1) := by decide +kernel
theorem dX12_triesHand_8 : decode cX12_triesHand 8 = .ok (.iaload, 1) := by decide +kernel
theorem dX12_triesHand_9 : decode cX12_triesHand 9 = .ok (.if_icmp .ge 21, 3) := by decide +kernel
theorem dX12_triesHand_12 : decode cX12_triesHand 12 = .ok (.aload_n 0, 1) := by decide +kernel
theorem dX12_triesHand_13 : decode cX12_triesHand 13 = .ok (.getfield 132, 3) := by decide +kernel
theorem dX12_triesHand_16 : decode cX12_triesHand 16 = .ok (.iload_n 1, 1) := by decide +kernel
theorem dX12_triesHand_17 : decode cX12_triesHand 17 = .ok (.aload_n 0, 1) := by decide +kernel
theorem dX12_triesHand_18 : decode cX12_triesHand 18 = .ok (.getfield 125, 3) := by decide +kernel
theorem dX12_triesHand_21 : decode cX12_triesHand 21 = .ok (.iload_n 1, 1) := by decide +kernel
theorem dX12_triesHand_22 : decode cX12_triesHand 22 = .ok (.iaload, 1) := by decide +kernel
theorem dX12_triesHand_23 : decode cX12_triesHand 23 = .ok (.iastore, 1) := by decide +kernel
theorem dX12_triesHand_24 : decode cX12_triesHand 24 = .ok (.iinc 1 1, 3) := by decide +kernel
theorem dX12_triesHand_27 : decode cX12_triesHand 27 = .ok (.goto (-25), 3) := by decide +kernel
theorem dX12_triesHand_30 : decode cX12_triesHand 30 = .ok (.return_, 1) := by decide +kernel
theorem dX12_triesGroup_0 : decode cX12_triesGroup 0 = .ok (.iconst 0, 1) := by decide +kernel
theorem dX12_triesGroup_1 : decode cX12_triesGroup 1 = .ok (.istore_n 3, 1) := by decide +kernel
theorem dX12_triesGroup_2 : decode cX12_triesGroup 2 = .ok (.iload_n 3, 1) := by decide +kernel
theorem dX12_triesGroup_3 : decode cX12_triesGroup 3 = .ok (.aload_n 0, 1) := by decide +kernel
theorem dX12_triesGroup_4 : decode cX12_triesGroup 4 = .ok (.getfield 62, 3) := by decide +kernel
theorem dX12_triesGroup_7 : decode cX12_triesGroup 7 = .ok (.iconst 0, 1) := by decide +kernel
theorem dX12_triesGroup_8 : decode cX12_triesGroup 8 = .ok (.iaload, 1) := by decide +kernel
theorem dX12_triesGroup_9 : decode cX12_triesGroup 9 = .ok (.if_icmp .ge 35, 3) := by decide +kernel
theorem dX12_triesGroup_12 : decode cX12_triesGroup 12 = .ok (.aload_n 0, 1) := by decide +kernel
theorem dX12_triesGroup_13 : decode cX12_triesGroup 13 = .ok (.getfield 132, 3) := by decide +kernel
theorem dX12_triesGroup_16 : decode cX12_triesGroup 16 = .ok (.iload_n 3, 1) := by decide +kernel
theorem dX12_triesGroup_17 : decode cX12_triesGroup 17 = .ok (.aload_n 0, 1) := by decide +kernel
theorem dX12_triesGroup_18 : decode cX12_triesGroup 18 = .ok (.getfield 93, 3) := by decide +kernel
theorem dX12_triesGroup_21 : decode cX12_triesGroup 21 = .ok (.iload_n 3, 1) := by decide +kernel
theorem dX12_triesGroup_22 : decode cX12_triesGroup 22 = .ok (.iaload, 1) := by decide +kernel
theorem dX12_triesGroup_23 : decode cX12_triesGroup 23 = .ok (.iload_n 1, 1) := by decide +kernel
theorem dX12_triesGroup_24 : decode cX12_triesGroup 24 = .ok (.if_icmp .ne 7, 3) := by decide +kernel
theorem dX12_triesGroup_27 : decode cX12_triesGroup 27 = .ok (.iload_n 2, 1) := by decide +kernel
theorem dX12_triesGroup_28 : decode cX12_triesGroup 28 = .ok (.goto 9, 3) := by decide +kernel
theorem dX12_triesGroup_31 : decode cX12_triesGroup 31 = .ok (.aload_n 0, 1) := by decide +kernel
theorem dX12_triesGroup_32 : decode cX12_triesGroup 32 = .ok (.getfield 132, 3) := by decide +kernel
theorem dX12_triesGroup_35 : decode cX12_triesGroup 35 = .ok (.iload_n 3, 1) := by decide +kernel
theorem dX12_triesGroup_36 : decode cX12_triesGroup 36 = .ok (.iaload, 1) := by decide +kernel
theorem dX12_triesGroup_37 : decode cX12_triesGroup 37 = .ok (.iastore, 1) := by decide +kernel
theorem dX12_triesGroup_38 : decode cX12_triesGroup 38 = .ok (.iinc 3 1, 3) := by decide +kernel
theorem dX12_triesGroup_41 : decode cX12_triesGroup 41 = .ok (.goto (-39), 3) := by decide +kernel
theorem dX12_triesGroup_44 : decode cX12_triesGroup 44 = .ok (.return_, 1) := by decide +kernel
theorem dX12_castError_0 : decode cX12_castError 0 = .ok (.aload_n 0, 1) := by decide +kernel
theorem dX12_castError_1 : decode cX12_castError 1 = .ok (.getfield 53, 3) := by decide +kernel
theorem dX12_castError_4 : decode cX12_castError 4 = .ok (.aload_n 0, 1) := by decide +kernel
theorem dX12_castError_5 : decode cX12_castError 5 = .ok (.getfield 132, 3) := by decide +kernel
theorem dX12_castError_8 : decode cX12_castError 8 = .ok (.iload_n 1, 1) := by decide +kernel
theorem dX12_castError_9 : decode cX12_castError 9 = .ok (.iaload, 1) := by decide +kernel
theorem dX12_castError_10 : decode cX12_castError 10 = .ok (.iaload, 1) := by decide +kernel
theorem dX12_castError_11 : decode cX12_castError 11 = .ok (.i2l, 1) := by decide +kernel
theorem dX12_castError_12 : decode cX12_castError 12 = .ok (.lstore_n 3, 1) := by decide +kernel
theorem dX12_castError_13 : decode cX12_castError 13 = .ok (.iload_n 2, 1) := by decide +kernel
theorem dX12_castError_14 : decode cX12_castError 14 = .ok (.ifCond .eq 12, 3) := by decide +kernel
theorem dX12_castError_17 : decode cX12_castError 17 = .ok (.aload_n 0, 1) := by decide +kernel
theorem dX12_castError_18 : decode cX12_castError 18 = .ok (.getfield 74, 3) := by decide +kernel
theorem dX12_castError_21 : decode cX12_castError 21 = .ok (.iload_n 1, 1) := by decide +kernel
theorem dX12_castError_22 : decode cX12_castError 22 = .ok (.iaload, 1) := by decide +kernel
theorem dX12_castError_23 : decode cX12_castError 23 = .ok (.goto 9, 3) := by decide +kernel
theorem dX12_castError_26 : decode cX12_castError 26 = .ok (.aload_n 0, 1) := by decide +kernel
theorem dX12_castError_27 : decode cX12_castError 27 = .ok (.getfield 71, 3) := by decide +kernel
theorem dX12_castError_30 : decode cX12_castError 30 = .ok (.iload_n 1, 1) := by decide +kernel
theorem dX12_castError_31 : decode cX12_castError 31 = .ok (.iaload, 1) := by decide +kernel
theorem dX12_castError_32 : decode cX12_castError 32 = .ok (.istore 5, 2) := by decide +kernel
theorem dX12_castError_34 : decode cX12_castError 34 = .ok (.iload 5, 2) := by decide +kernel
theorem dX12_castError_36 : decode cX12_castError 36 = .ok (.iconst (-1), 1) := by decide +kernel
theorem dX12_castError_37 : decode cX12_castError 37 = .ok (.if_icmp .ne 39, 3) := by decide +kernel
theorem dX12_castError_40 : decode cX12_castError 40 = .ok (.iload_n 2, 1) := by decide +kernel
theorem dX12_castError_41 : decode cX12_castError 41 = .ok (.ifCond .eq 12, 3) := by decide +kernel
theorem dX12_castError_44 : decode cX12_castError 44 = .ok (.aload_n 0, 1) := by decide +kernel
theorem dX12_castError_45 : decode cX12_castError 45 = .ok (.getfield 81, 3) := by decide +kernel
theorem dX12_castError_48 : decode cX12_castError 48 = .ok (.iload_n 1, 1) := by decide +kernel
theorem dX12_castError_49 : decode cX12_castError 49 = .ok (.laload, 1) := by decide +kernel
theorem dX12_castError_50 : decode cX12_castError 50 = .ok (.goto 9, 3) := by decide +kernel
theorem dX12_castError_53 : decode cX12_castError 53 = .ok (.aload_n 0, 1) := by decide +kernel
theorem dX12_castError_54 : decode cX12_castError 54 = .ok (.getfield 77, 3) := by decide +kernel
theorem dX12_castError_57 : decode cX12_castError 57 = .ok (.iload_n 1, 1) := by decide +kernel
theorem dX12_castError_58 : decode cX12_castError 58 = .ok (.laload, 1) := by decide +kernel
theorem dX12_castError_59 : decode cX12_castError 59 = .ok (.lload_n 3, 1) := by decide +kernel
theorem dX12_castError_60 : decode cX12_castError 60 = .ok (.lrem, 1) := by decide +kernel
theorem dX12_castError_61 : decode cX12_castError 61 = .ok (.lconst 0, 1) := by decide +kernel
theorem dX12_castError_62 : decode cX12_castError 62 = .ok (.lcmp, 1) := by decide +kernel
theorem dX12_castError_63 : decode cX12_castError 63 = .ok (.ifCond .ne 7, 3) := by decide +kernel
theorem dX12_castError_66 : decode cX12_castError 66 = .ok (.lconst 0, 1) := by decide +kernel
theorem dX12_castError_67 : decode cX12_castError 67 = .ok (.goto 8, 3) := by decide +kernel
theorem dX12_castError_70 : decode cX12_castError 70 = .ok (.lload_n 3, 1) := by decide +kernel
theorem dX12_castError_71 : decode cX12_castError 71 = .ok (.ldc2_w 383, 3) := by decide +kernel
theorem dX12_castError_74 : decode cX12_castError 74 = .ok (.ldiv, 1) := by decide +kernel
theorem dX12_castError_75 : decode cX12_castError 75 = .ok (.lreturn, 1) := by decide +kernel
theorem dX12_castError_76 : decode cX12_castError 76 = .ok (.aload_n 0, 1) := by decide +kernel
theorem dX12_castError_77 : decode cX12_castError 77 = .ok (.getfield 53, 3) := by decide +kernel
theorem dX12_castError_80 : decode cX12_castError 80 = .ok (.aload_n 0, 1) := by decide +kernel
theorem dX12_castError_81 : decode cX12_castError 81 = .ok (.getfield 132, 3) := by decide +kernel
theorem dX12_castError_84 : decode cX12_castError 84 = .ok (.iload 5, 2) := by decide +kernel
theorem dX12_castError_86 : decode cX12_castError 86 = .ok (.iaload, 1) := by decide +kernel
theorem dX12_castError_87 : decode cX12_castError 87 = .ok (.iaload, 1) := by decide +kernel
theorem dX12_castError_88 : decode cX12_castError 88 = .ok (.i2l, 1) := by decide +kernel
theorem dX12_castError_89 : decode cX12_castError 89 = .ok (.lload_n 3, 1) := by decide +kernel
theorem dX12_castError_90 : decode cX12_castError 90 = .ok (.lrem, 1) := by decide +kernel
theorem dX12_castError_91 : decode cX12_castError 91 = .ok (.lconst 0, 1) := by decide +kernel
theorem dX12_castError_92 : decode cX12_castError 92 = .ok (.lcmp, 1) := by decide +kernel
theorem dX12_castError_93 : decode cX12_castError 93 = .ok (.ifCond .ne 13, 3) := by decide +kernel
theorem dX12_castError_96 : decode cX12_castError 96 = .ok (.aload_n 0, 1) := by decide +kernel
theorem dX12_castError_97 : decode cX12_castError 97 = .ok (.getfield 135, 3) := by decide +kernel
theorem dX12_castError_100 : decode cX12_castError 100 = .ok (.iload 5, 2) := by decide +kernel
theorem dX12_castError_102 : decode cX12_castError 102 = .ok (.laload, 1) := by decide +kernel
theorem dX12_castError_103 : decode cX12_castError 103 = .ok (.goto 16, 3) := by decide +kernel
theorem dX12_castError_106 : decode cX12_castError 106 = .ok (.aload_n 0, 1) := by decide +kernel
theorem dX12_castError_107 : decode cX12_castError 107 = .ok (.getfield 135, 3) := by decide +kernel
theorem dX12_castError_110 : decode cX12_castError 110 = .ok (.iload 5, 2) := by decide +kernel
theorem dX12_castError_112 : decode cX12_castError 112 = .ok (.laload, 1) := by decide +kernel
theorem dX12_castError_113 : decode cX12_castError 113 = .ok (.lload_n 3, 1) := by decide +kernel
theorem dX12_castError_114 : decode cX12_castError 114 = .ok (.ldc2_w 383, 3) := by decide +kernel
theorem dX12_castError_117 : decode cX12_castError 117 = .ok (.ldiv, 1) := by decide +kernel
theorem dX12_castError_118 : decode cX12_castError 118 = .ok (.ladd, 1) := by decide +kernel
theorem dX12_castError_119 : decode cX12_castError 119 = .ok (.lreturn, 1) := by decide +kernel
theorem dX12_laysError_0 : decode cX12_laysError 0 = .ok (.aload_n 0, 1) := by decide +kernel
theorem dX12_laysError_1 : decode cX12_laysError 1 = .ok (.getfield 53, 3) := by decide +kernel
theorem dX12_laysError_4 : decode cX12_laysError 4 = .ok (.aload_n 0, 1) := by decide +kernel
theorem dX12_laysError_5 : decode cX12_laysError 5 = .ok (.getfield 132, 3) := by decide +kernel
theorem dX12_laysError_8 : decode cX12_laysError 8 = .ok (.iload_n 1, 1) := by decide +kernel
theorem dX12_laysError_9 : decode cX12_laysError 9 = .ok (.iaload, 1) := by decide +kernel
theorem dX12_laysError_10 : decode cX12_laysError 10 = .ok (.iaload, 1) := by decide +kernel
theorem dX12_laysError_11 : decode cX12_laysError 11 = .ok (.i2l, 1) := by decide +kernel
theorem dX12_laysError_12 : decode cX12_laysError 12 = .ok (.ldc2_w 383, 3) := by decide +kernel
theorem dX12_laysError_15 : decode cX12_laysError 15 = .ok (.ldiv, 1) := by decide +kernel
theorem dX12_laysError_16 : decode cX12_laysError 16 = .ok (.lstore_n 2, 1) := by decide +kernel
theorem dX12_laysError_17 : decode cX12_laysError 17 = .ok (.aload_n 0, 1) := by decide +kernel
theorem dX12_laysError_18 : decode cX12_laysError 18 = .ok (.getfield 68, 3) := by decide +kernel
theorem dX12_laysError_21 : decode cX12_laysError 21 = .ok (.iload_n 1, 1) := by decide +kernel
theorem dX12_laysError_22 : decode cX12_laysError 22 = .ok (.iaload, 1) := by decide +kernel
theorem dX12_laysError_23 : decode cX12_laysError 23 = .ok (.ifCond .ne 11, 3) := by decide +kernel
theorem dX12_laysError_26 : decode cX12_laysError 26 = .ok (.aload_n 0, 1) := by decide +kernel
theorem dX12_laysError_27 : decode cX12_laysError 27 = .ok (.getfield 135, 3) := by decide +kernel
theorem dX12_laysError_30 : decode cX12_laysError 30 = .ok (.iload_n 1, 1) := by decide +kernel
theorem dX12_laysError_31 : decode cX12_laysError 31 = .ok (.lload_n 2, 1) := by decide +kernel
theorem dX12_laysError_32 : decode cX12_laysError 32 = .ok (.lastore, 1) := by decide +kernel
theorem dX12_laysError_33 : decode cX12_laysError 33 = .ok (.return_, 1) := by decide +kernel
theorem dX12_laysError_34 : decode cX12_laysError 34 = .ok (.aload_n 0, 1) := by decide +kernel
theorem dX12_laysError_35 : decode cX12_laysError 35 = .ok (.iload_n 1, 1) := by decide +kernel
theorem dX12_laysError_36 : decode cX12_laysError 36 = .ok (.iconst 0, 1) := by decide +kernel
theorem dX12_laysError_37 : decode cX12_laysError 37 = .ok (.invokevirtual 427, 3) := by decide +kernel
theorem dX12_laysError_40 : decode cX12_laysError 40 = .ok (.lstore 4, 2) := by decide +kernel
theorem dX12_laysError_42 : decode cX12_laysError 42 = .ok (.aload_n 0, 1) := by decide +kernel
theorem dX12_laysError_43 : decode cX12_laysError 43 = .ok (.iload_n 1, 1) := by decide +kernel
theorem dX12_laysError_44 : decode cX12_laysError 44 = .ok (.iconst 1, 1) := by decide +kernel
theorem dX12_laysError_45 : decode cX12_laysError 45 = .ok (.invokevirtual 427, 3) := by decide +kernel
theorem dX12_laysError_48 : decode cX12_laysError 48 = .ok (.lstore 6, 2) := by decide +kernel
theorem dX12_laysError_50 : decode cX12_laysError 50 = .ok (.aload_n 0, 1) := by decide +kernel
theorem dX12_laysError_51 : decode cX12_laysError 51 = .ok (.getfield 68, 3) := by decide +kernel
theorem dX12_laysError_54 : decode cX12_laysError 54 = .ok (.iload_n 1, 1) := by decide +kernel
theorem dX12_laysError_55 : decode cX12_laysError 55 = .ok (.iaload, 1) := by decide +kernel
theorem dX12_laysError_56 : decode cX12_laysError 56 = .ok (.iconst 1, 1) := by decide +kernel
theorem dX12_laysError_57 : decode cX12_laysError 57 = .ok (.if_icmp .eq 13, 3) := by decide +kernel
theorem dX12_laysError_60 : decode cX12_laysError 60 = .ok (.aload_n 0, 1) := by decide +kernel
theorem dX12_laysError_61 : decode cX12_laysError 61 = .ok (.getfield 68, 3) := by decide +kernel
theorem dX12_laysError_64 : decode cX12_laysError 64 = .ok (.iload_n 1, 1) := by decide +kernel
theorem dX12_laysError_65 : decode cX12_laysError 65 = .ok (.iaload, 1) := by decide +kernel
theorem dX12_laysError_66 : decode cX12_laysError 66 = .ok (.iconst 2, 1) := by decide +kernel
theorem dX12_laysError_67 : decode cX12_laysError 67 = .ok (.if_icmp .ne 17, 3) := by decide +kernel
theorem dX12_laysError_70 : decode cX12_laysError 70 = .ok (.aload_n 0, 1) := by decide +kernel
theorem dX12_laysError_71 : decode cX12_laysError 71 = .ok (.getfield 135, 3) := by decide +kernel
theorem dX12_laysError_74 : decode cX12_laysError 74 = .ok (.iload_n 1, 1) := by decide +kernel
theorem dX12_laysError_75 : decode cX12_laysError 75 = .ok (.lload 4, 2) := by decide +kernel
theorem dX12_laysError_77 : decode cX12_laysError 77 = .ok (.lload 6, 2) := by decide +kernel
theorem dX12_laysError_79 : decode cX12_laysError 79 = .ok (.ladd, 1) := by decide +kernel
theorem dX12_laysError_80 : decode cX12_laysError 80 = .ok (.lastore, 1) := by decide +kernel
theorem dX12_laysError_81 : decode cX12_laysError 81 = .ok (.goto 110, 3) := by decide +kernel
theorem dX12_laysError_84 : decode cX12_laysError 84 = .ok (.aload_n 0, 1) := by decide +kernel
theorem dX12_laysError_85 : decode cX12_laysError 85 = .ok (.getfield 68, 3) := by decide +kernel
theorem dX12_laysError_88 : decode cX12_laysError 88 = .ok (.iload_n 1, 1) := by decide +kernel
theorem dX12_laysError_89 : decode cX12_laysError 89 = .ok (.iaload, 1) := by decide +kernel
theorem dX12_laysError_90 : decode cX12_laysError 90 = .ok (.iconst 3, 1) := by decide +kernel
theorem dX12_laysError_91 : decode cX12_laysError 91 = .ok (.if_icmp .ne 87, 3) := by decide +kernel
theorem dX12_laysError_94 : decode cX12_laysError 94 = .ok (.aload_n 0, 1) := by decide +kernel
theorem dX12_laysError_95 : decode cX12_laysError 95 = .ok (.iload_n 1, 1) := by decide +kernel
theorem dX12_laysError_96 : decode cX12_laysError 96 = .ok (.iconst 0, 1) := by decide +kernel
theorem dX12_laysError_97 : decode cX12_laysError 97 = .ok (.invokevirtual 399, 3) := by decide +kernel
theorem dX12_laysError_100 : decode cX12_laysError 100 = .ok (.invokestatic 410, 3) := by decide +kernel
theorem dX12_laysError_103 : decode cX12_laysError 103 = .ok (.aload_n 0, 1) := by decide +kernel
theorem dX12_laysError_104 : decode cX12_laysError 104 = .ok (.iload_n 1, 1) := by decide +kernel
theorem dX12_laysError_105 : decode cX12_laysError 105 = .ok (.iconst 0, 1) := by decide +kernel
theorem dX12_laysError_106 : decode cX12_laysError 106 = .ok (.invokevirtual 403, 3) := by decide +kernel
theorem dX12_laysError_109 : decode cX12_laysError 109 = .ok (.invokestatic 410, 3) := by decide +kernel
theorem dX12_laysError_112 : decode cX12_laysError 112 = .ok (.invokestatic 396, 3) := by decide +kernel
theorem dX12_laysError_115 : decode cX12_laysError 115 = .ok (.lstore 8, 2) := by decide +kernel
theorem dX12_laysError_117 : decode cX12_laysError 117 = .ok (.aload_n 0, 1) := by decide +kernel
theorem dX12_laysError_118 : decode cX12_laysError 118 = .ok (.iload_n 1, 1) := by decide +kernel
theorem dX12_laysError_119 : decode cX12_laysError 119 = .ok (.iconst 1, 1) := by decide +kernel
theorem dX12_laysError_120 : decode cX12_laysError 120 = .ok (.invokevirtual 399, 3) := by decide +kernel
theorem dX12_laysError_123 : decode cX12_laysError 123 = .ok (.invokestatic 410, 3) := by decide +kernel
theorem dX12_laysError_126 : decode cX12_laysError 126 = .ok (.aload_n 0, 1) := by decide +kernel
theorem dX12_laysError_127 : decode cX12_laysError 127 = .ok (.iload_n 1, 1) := by decide +kernel
theorem dX12_laysError_128 : decode cX12_laysError 128 = .ok (.iconst 1, 1) := by decide +kernel
theorem dX12_laysError_129 : decode cX12_laysError 129 = .ok (.invokevirtual 403, 3) := by decide +kernel
theorem dX12_laysError_132 : decode cX12_laysError 132 = .ok (.invokestatic 410, 3) := by decide +kernel
theorem dX12_laysError_135 : decode cX12_laysError 135 = .ok (.invokestatic 396, 3) := by decide +kernel
theorem dX12_laysError_138 : decode cX12_laysError 138 = .ok (.lstore 10, 2) := by decide +kernel
theorem dX12_laysError_140 : decode cX12_laysError 140 = .ok (.aload_n 0, 1) := by decide +kernel
theorem dX12_laysError_141 : decode cX12_laysError 141 = .ok (.getfield 135, 3) := by decide +kernel
theorem dX12_laysError_144 : decode cX12_laysError 144 = .ok (.iload_n 1, 1) := by decide +kernel
theorem dX12_laysError_145 : decode cX12_laysError 145 = .ok (.lload 8, 2) := by decide +kernel
theorem dX12_laysError_147 : decode cX12_laysError 147 = .ok (.lload 6, 2) := by decide +kernel
theorem dX12_laysError_149 : decode cX12_laysError 149 = .ok (.lmul, 1) := by decide +kernel
theorem dX12_laysError_150 : decode cX12_laysError 150 = .ok (.lload 10, 2) := by decide +kernel
theorem dX12_laysError_152 : decode cX12_laysError 152 = .ok (.lload 4, 2) := by decide +kernel
theorem dX12_laysError_154 : decode cX12_laysError 154 = .ok (.lmul, 1) := by decide +kernel
theorem dX12_laysError_155 : decode cX12_laysError 155 = .ok (.ladd, 1) := by decide +kernel
theorem dX12_laysError_156 : decode cX12_laysError 156 = .ok (.lload 4, 2) := by decide +kernel
theorem dX12_laysError_158 : decode cX12_laysError 158 = .ok (.lload 6, 2) := by decide +kernel
theorem dX12_laysError_160 : decode cX12_laysError 160 = .ok (.lmul, 1) := by decide +kernel
theorem dX12_laysError_161 : decode cX12_laysError 161 = .ok (.ladd, 1) := by decide +kernel
theorem dX12_laysError_162 : decode cX12_laysError 162 = .ok (.lneg, 1) := by decide +kernel
theorem dX12_laysError_163 : decode cX12_laysError 163 = .ok (.ldc2_w 388, 3) := by decide +kernel
theorem dX12_laysError_166 : decode cX12_laysError 166 = .ok (.invokestatic 385, 3) := by decide +kernel
theorem dX12_laysError_169 : decode cX12_laysError 169 = .ok (.lneg, 1) := by decide +kernel
theorem dX12_laysError_170 : decode cX12_laysError 170 = .ok (.lload_n 2, 1) := by decide +kernel
theorem dX12_laysError_171 : decode cX12_laysError 171 = .ok (.ladd, 1) := by decide +kernel
theorem dX12_laysError_172 : decode cX12_laysError 172 = .ok (.lconst 1, 1) := by decide +kernel
theorem dX12_laysError_173 : decode cX12_laysError 173 = .ok (.ladd, 1) := by decide +kernel
theorem dX12_laysError_174 : decode cX12_laysError 174 = .ok (.lastore, 1) := by decide +kernel
theorem dX12_laysError_175 : decode cX12_laysError 175 = .ok (.goto 16, 3) := by decide +kernel
theorem dX12_laysError_178 : decode cX12_laysError 178 = .ok (.aload_n 0, 1) := by decide +kernel
theorem dX12_laysError_179 : decode cX12_laysError 179 = .ok (.getfield 135, 3) := by decide +kernel
theorem dX12_laysError_182 : decode cX12_laysError 182 = .ok (.iload_n 1, 1) := by decide +kernel
theorem dX12_laysError_183 : decode cX12_laysError 183 = .ok (.lload 4, 2) := by decide +kernel
theorem dX12_laysError_185 : decode cX12_laysError 185 = .ok (.lload 6, 2) := by decide +kernel
theorem dX12_laysError_187 : decode cX12_laysError 187 = .ok (.invokestatic 396, 3) := by decide +kernel
theorem dX12_laysError_190 : decode cX12_laysError 190 = .ok (.lastore, 1) := by decide +kernel
theorem dX12_laysError_191 : decode cX12_laysError 191 = .ok (.return_, 1) := by decide +kernel
theorem dX12_passes_0 : decode cX12_passes 0 = .ok (.aload_n 0, 1) := by decide +kernel
theorem dX12_passes_1 : decode cX12_passes 1 = .ok (.bipush (-2), 2) := by decide +kernel
theorem dX12_passes_3 : decode cX12_passes 3 = .ok (.putfield 138, 3) := by decide +kernel
theorem dX12_passes_6 : decode cX12_passes 6 = .ok (.aload_n 0, 1) := by decide +kernel
theorem dX12_passes_7 : decode cX12_passes 7 = .ok (.iconst 0, 1) := by decide +kernel
theorem dX12_passes_8 : decode cX12_passes 8 = .ok (.putfield 141, 3) := by decide +kernel
theorem dX12_passes_11 : decode cX12_passes 11 = .ok (.iconst 0, 1) := by decide +kernel
theorem dX12_passes_12 : decode cX12_passes 12 = .ok (.istore_n 1, 1) := by decide +kernel
theorem dX12_passes_13 : decode cX12_passes 13 = .ok (.iload_n 1, 1) := by decide +kernel
theorem dX12_passes_14 : decode cX12_passes 14 = .ok (.aload_n 0, 1) := by decide +kernel
theorem dX12_passes_15 : decode cX12_passes 15 = .ok (.getfield 62, 3) := by decide +kernel
theorem dX12_passes_18 : decode cX12_passes 18 = .ok (.iconst 0, 1) := by decide +kernel
theorem dX12_passes_19 : decode cX12_passes 19 = .ok (.iaload, 1) := by decide +kernel
theorem dX12_passes_20 : decode cX12_passes 20 = .ok (.if_icmp .ge 106, 3) := by decide +kernel
theorem dX12_passes_23 : decode cX12_passes 23 = .ok (.aload_n 0, 1) := by decide +kernel
theorem dX12_passes_24 : decode cX12_passes 24 = .ok (.getfield 141, 3) := by decide +kernel
theorem dX12_passes_27 : decode cX12_passes 27 = .ok (.ifCond .ne 99, 3) := by decide +kernel
theorem dX12_passes_30 : decode cX12_passes 30 = .ok (.aload_n 0, 1) := by decide +kernel
theorem dX12_passes_31 : decode cX12_passes 31 = .ok (.iload_n 1, 1) := by decide +kernel
theorem dX12_passes_32 : decode cX12_passes 32 = .ok (.invokevirtual 417, 3) := by decide +kernel
theorem dX12_passes_35 : decode cX12_passes 35 = .ok (.aload_n 0, 1) := by decide +kernel
theorem dX12_passes_36 : decode cX12_passes 36 = .ok (.iload_n 1, 1) := by decide +kernel
theorem dX12_passes_37 : decode cX12_passes 37 = .ok (.invokevirtual 430, 3) := by decide +kernel
theorem dX12_passes_40 : decode cX12_passes 40 = .ok (.aload_n 0, 1) := by decide +kernel
theorem dX12_passes_41 : decode cX12_passes 41 = .ok (.iload_n 1, 1) := by decide +kernel
theorem dX12_passes_42 : decode cX12_passes 42 = .ok (.invokevirtual 420, 3) := by decide +kernel
theorem dX12_passes_45 : decode cX12_passes 45 = .ok (.aload_n 0, 1) := by decide +kernel
theorem dX12_passes_46 : decode cX12_passes 46 = .ok (.getfield 135, 3) := by decide +kernel
theorem dX12_passes_49 : decode cX12_passes 49 = .ok (.iload_n 1, 1) := by decide +kernel
theorem dX12_passes_50 : decode cX12_passes 50 = .ok (.laload, 1) := by decide +kernel
theorem dX12_passes_51 : decode cX12_passes 51 = .ok (.ladd, 1) := by decide +kernel
theorem dX12_passes_52 : decode cX12_passes 52 = .ok (.aload_n 0, 1) := by decide +kernel
theorem dX12_passes_53 : decode cX12_passes 53 = .ok (.getfield 56, 3) := by decide +kernel
theorem dX12_passes_56 : decode cX12_passes 56 = .ok (.aload_n 0, 1) := by decide +kernel
theorem dX12_passes_57 : decode cX12_passes 57 = .ok (.getfield 132, 3) := by decide +kernel
theorem dX12_passes_60 : decode cX12_passes 60 = .ok (.iload_n 1, 1) := by decide +kernel
theorem dX12_passes_61 : decode cX12_passes 61 = .ok (.iaload, 1) := by decide +kernel
theorem dX12_passes_62 : decode cX12_passes 62 = .ok (.iaload, 1) := by decide +kernel
theorem dX12_passes_63 : decode cX12_passes 63 = .ok (.i2l, 1) := by decide +kernel
theorem dX12_passes_64 : decode cX12_passes 64 = .ok (.lcmp, 1) := by decide +kernel
theorem dX12_passes_65 : decode cX12_passes 65 = .ok (.ifCond .le 11, 3) := by decide +kernel
theorem dX12_passes_68 : decode cX12_passes 68 = .ok (.aload_n 0, 1) := by decide +kernel
theorem dX12_passes_69 : decode cX12_passes 69 = .ok (.iconst 1, 1) := by decide +kernel
theorem dX12_passes_70 : decode cX12_passes 70 = .ok (.putfield 141, 3) := by decide +kernel
theorem dX12_passes_73 : decode cX12_passes 73 = .ok (.goto 35, 3) := by decide +kernel
theorem dX12_passes_76 : decode cX12_passes 76 = .ok (.aload_n 0, 1) := by decide +kernel
theorem dX12_passes_77 : decode cX12_passes 77 = .ok (.getfield 90, 3) := by decide +kernel
theorem dX12_passes_80 : decode cX12_passes 80 = .ok (.iload_n 1, 1) := by decide +kernel
theorem dX12_passes_81 : decode cX12_passes 81 = .ok (.iaload, 1) := by decide +kernel
theorem dX12_passes_82 : decode cX12_passes 82 = .ok (.iconst (-1), 1) := by decide +kernel
theorem dX12_passes_83 : decode cX12_passes 83 = .ok (.if_icmp .eq 25, 3) := by decide +kernel
theorem dX12_passes_86 : decode cX12_passes 86 = .ok (.aload_n 0, 1) := by decide +kernel
theorem dX12_passes_87 : decode cX12_passes 87 = .ok (.getfield 135, 3) := by decide +kernel
theorem dX12_passes_90 : decode cX12_passes 90 = .ok (.iload_n 1, 1) := by decide +kernel
theorem dX12_passes_91 : decode cX12_passes 91 = .ok (.laload, 1) := by decide +kernel
theorem dX12_passes_92 : decode cX12_passes 92 = .ok (.aload_n 0, 1) := by decide +kernel
theorem dX12_passes_93 : decode cX12_passes 93 = .ok (.getfield 90, 3) := by decide +kernel
theorem dX12_passes_96 : decode cX12_passes 96 = .ok (.iload_n 1, 1) := by decide +kernel
theorem dX12_passes_97 : decode cX12_passes 97 = .ok (.iaload, 1) := by decide +kernel
theorem dX12_passes_98 : decode cX12_passes 98 = .ok (.i2l, 1) := by decide +kernel
theorem dX12_passes_99 : decode cX12_passes 99 = .ok (.lcmp, 1) := by decide +kernel
theorem dX12_passes_100 : decode cX12_passes 100 = .ok (.ifCond .le 8, 3) := by decide +kernel
theorem dX12_passes_103 : decode cX12_passes 103 = .ok (.aload_n 0, 1) := by decide +kernel
theorem dX12_passes_104 : decode cX12_passes 104 = .ok (.iconst 2, 1) := by decide +kernel
theorem dX12_passes_105 : decode cX12_passes 105 = .ok (.putfield 141, 3) := by decide +kernel
theorem dX12_passes_108 : decode cX12_passes 108 = .ok (.aload_n 0, 1) := by decide +kernel
theorem dX12_passes_109 : decode cX12_passes 109 = .ok (.getfield 141, 3) := by decide +kernel
theorem dX12_passes_112 : decode cX12_passes 112 = .ok (.ifCond .le 8, 3) := by decide +kernel
theorem dX12_passes_115 : decode cX12_passes 115 = .ok (.aload_n 0, 1) := by decide +kernel
theorem dX12_passes_116 : decode cX12_passes 116 = .ok (.iload_n 1, 1) := by decide +kernel
theorem dX12_passes_117 : decode cX12_passes 117 = .ok (.putfield 138, 3) := by decide +kernel
theorem dX12_passes_120 : decode cX12_passes 120 = .ok (.iinc 1 1, 3) := by decide +kernel
theorem dX12_passes_123 : decode cX12_passes 123 = .ok (.goto (-110), 3) := by decide +kernel
theorem dX12_passes_126 : decode cX12_passes 126 = .ok (.aload_n 0, 1) := by decide +kernel
theorem dX12_passes_127 : decode cX12_passes 127 = .ok (.getfield 141, 3) := by decide +kernel
theorem dX12_passes_130 : decode cX12_passes 130 = .ok (.ifCond .ne 7, 3) := by decide +kernel
theorem dX12_passes_133 : decode cX12_passes 133 = .ok (.iconst 1, 1) := by decide +kernel
theorem dX12_passes_134 : decode cX12_passes 134 = .ok (.goto 4, 3) := by decide +kernel
theorem dX12_passes_137 : decode cX12_passes 137 = .ok (.iconst 0, 1) := by decide +kernel
theorem dX12_passes_138 : decode cX12_passes 138 = .ok (.ireturn, 1) := by decide +kernel
theorem dX12_isCast_0 : decode cX12_isCast 0 = .ok (.iload_n 2, 1) := by decide +kernel
theorem dX12_isCast_1 : decode cX12_isCast 1 = .ok (.iconst (-1), 1) := by decide +kernel
theorem dX12_isCast_2 : decode cX12_isCast 2 = .ok (.if_icmp .eq 22, 3) := by decide +kernel
theorem dX12_isCast_5 : decode cX12_isCast 5 = .ok (.aload_n 0, 1) := by decide +kernel
theorem dX12_isCast_6 : decode cX12_isCast 6 = .ok (.getfield 132, 3) := by decide +kernel
theorem dX12_isCast_9 : decode cX12_isCast 9 = .ok (.iload_n 2, 1) := by decide +kernel
theorem dX12_isCast_10 : decode cX12_isCast 10 = .ok (.iaload, 1) := by decide +kernel
theorem dX12_isCast_11 : decode cX12_isCast 11 = .ok (.aload_n 0, 1) := by decide +kernel
theorem dX12_isCast_12 : decode cX12_isCast 12 = .ok (.getfield 132, 3) := by decide +kernel
theorem dX12_isCast_15 : decode cX12_isCast 15 = .ok (.iload_n 1, 1) := by decide +kernel
theorem dX12_isCast_16 : decode cX12_isCast 16 = .ok (.iaload, 1) := by decide +kernel
theorem dX12_isCast_17 : decode cX12_isCast 17 = .ok (.if_icmp .eq 7, 3) := by decide +kernel
theorem dX12_isCast_20 : decode cX12_isCast 20 = .ok (.iconst 1, 1) := by decide +kernel
theorem dX12_isCast_21 : decode cX12_isCast 21 = .ok (.goto 4, 3) := by decide +kernel
theorem dX12_isCast_24 : decode cX12_isCast 24 = .ok (.iconst 0, 1) := by decide +kernel
theorem dX12_isCast_25 : decode cX12_isCast 25 = .ok (.ireturn, 1) := by decide +kernel
theorem dX12_castsTried_0 : decode cX12_castsTried 0 = .ok (.iconst 0, 1) := by decide +kernel
theorem dX12_castsTried_1 : decode cX12_castsTried 1 = .ok (.istore_n 1, 1) := by decide +kernel
theorem dX12_castsTried_2 : decode cX12_castsTried 2 = .ok (.iconst 0, 1) := by decide +kernel
theorem dX12_castsTried_3 : decode cX12_castsTried 3 = .ok (.istore_n 2, 1) := by decide +kernel
theorem dX12_castsTried_4 : decode cX12_castsTried 4 = .ok (.iload_n 2, 1) := by decide +kernel
theorem dX12_castsTried_5 : decode cX12_castsTried 5 = .ok (.aload_n 0, 1) := by decide +kernel
theorem dX12_castsTried_6 : decode cX12_castsTried 6 = .ok (.getfield 62, 3) := by decide +kernel
theorem dX12_castsTried_9 : decode cX12_castsTried 9 = .ok (.iconst 0, 1) := by decide +kernel
theorem dX12_castsTried_10 : decode cX12_castsTried 10 = .ok (.iaload, 1) := by decide +kernel
theorem dX12_castsTried_11 : decode cX12_castsTried 11 = .ok (.if_icmp .ge 51, 3) := by decide +kernel
theorem dX12_castsTried_14 : decode cX12_castsTried 14 = .ok (.iload_n 1, 1) := by decide +kernel
theorem dX12_castsTried_15 : decode cX12_castsTried 15 = .ok (.aload_n 0, 1) := by decide +kernel
theorem dX12_castsTried_16 : decode cX12_castsTried 16 = .ok (.iload_n 2, 1) := by decide +kernel
theorem dX12_castsTried_17 : decode cX12_castsTried 17 = .ok (.aload_n 0, 1) := by decide +kernel
theorem dX12_castsTried_18 : decode cX12_castsTried 18 = .ok (.getfield 71, 3) := by decide +kernel
theorem dX12_castsTried_21 : decode cX12_castsTried 21 = .ok (.iload_n 2, 1) := by decide +kernel
theorem dX12_castsTried_22 : decode cX12_castsTried 22 = .ok (.iaload, 1) := by decide +kernel
theorem dX12_castsTried_23 : decode cX12_castsTried 23 = .ok (.invokevirtual 433, 3) := by decide +kernel
theorem dX12_castsTried_26 : decode cX12_castsTried 26 = .ok (.ifCond .eq 7, 3) := by decide +kernel
theorem dX12_castsTried_29 : decode cX12_castsTried 29 = .ok (.iconst 1, 1) := by decide +kernel
theorem dX12_castsTried_30 : decode cX12_castsTried 30 = .ok (.goto 4, 3) := by decide +kernel
theorem dX12_castsTried_33 : decode cX12_castsTried 33 = .ok (.iconst 0, 1) := by decide +kernel
theorem dX12_castsTried_34 : decode cX12_castsTried 34 = .ok (.aload_n 0, 1) := by decide +kernel
theorem dX12_castsTried_35 : decode cX12_castsTried 35 = .ok (.iload_n 2, 1) := by decide +kernel
theorem dX12_castsTried_36 : decode cX12_castsTried 36 = .ok (.aload_n 0, 1) := by decide +kernel
theorem dX12_castsTried_37 : decode cX12_castsTried 37 = .ok (.getfield 74, 3) := by decide +kernel
theorem dX12_castsTried_40 : decode cX12_castsTried 40 = .ok (.iload_n 2, 1) := by decide +kernel
theorem dX12_castsTried_41 : decode cX12_castsTried 41 = .ok (.iaload, 1) := by decide +kernel
theorem dX12_castsTried_42 : decode cX12_castsTried 42 = .ok (.invokevirtual 433, 3) := by decide +kernel
theorem dX12_castsTried_45 : decode cX12_castsTried 45 = .ok (.ifCond .eq 7, 3) := by decide +kernel
theorem dX12_castsTried_48 : decode cX12_castsTried 48 = .ok (.iconst 1, 1) := by decide +kernel
theorem dX12_castsTried_49 : decode cX12_castsTried 49 = .ok (.goto 4, 3) := by decide +kernel
theorem dX12_castsTried_52 : decode cX12_castsTried 52 = .ok (.iconst 0, 1) := by decide +kernel
theorem dX12_castsTried_53 : decode cX12_castsTried 53 = .ok (.iadd, 1) := by decide +kernel
theorem dX12_castsTried_54 : decode cX12_castsTried 54 = .ok (.iadd, 1) := by decide +kernel
theorem dX12_castsTried_55 : decode cX12_castsTried 55 = .ok (.istore_n 1, 1) := by decide +kernel
theorem dX12_castsTried_56 : decode cX12_castsTried 56 = .ok (.iinc 2 1, 3) := by decide +kernel
theorem dX12_castsTried_59 : decode cX12_castsTried 59 = .ok (.goto (-55), 3) := by decide +kernel
theorem dX12_castsTried_62 : decode cX12_castsTried 62 = .ok (.iload_n 1, 1) := by decide +kernel
theorem dX12_castsTried_63 : decode cX12_castsTried 63 = .ok (.ireturn, 1) := by decide +kernel
theorem dX12_costTried_0 : decode cX12_costTried 0 = .ok (.aload_n 0, 1) := by decide +kernel
theorem dX12_costTried_1 : decode cX12_costTried 1 = .ok (.getfield 84, 3) := by decide +kernel
theorem dX12_costTried_4 : decode cX12_costTried 4 = .ok (.iconst 0, 1) := by decide +kernel
theorem dX12_costTried_5 : decode cX12_costTried 5 = .ok (.iaload, 1) := by decide +kernel
theorem dX12_costTried_6 : decode cX12_costTried 6 = .ok (.aload_n 0, 1) := by decide +kernel
theorem dX12_costTried_7 : decode cX12_costTried 7 = .ok (.invokevirtual 437, 3) := by decide +kernel
theorem dX12_costTried_10 : decode cX12_costTried 10 = .ok (.imul, 1) := by decide +kernel
theorem dX12_costTried_11 : decode cX12_costTried 11 = .ok (.istore_n 1, 1) := by decide +kernel
theorem dX12_costTried_12 : decode cX12_costTried 12 = .ok (.iconst 0, 1) := by decide +kernel
theorem dX12_costTried_13 : decode cX12_costTried 13 = .ok (.istore_n 2, 1) := by decide +kernel
theorem dX12_costTried_14 : decode cX12_costTried 14 = .ok (.iload_n 2, 1) := by decide +kernel
theorem dX12_costTried_15 : decode cX12_costTried 15 = .ok (.aload_n 0, 1) := by decide +kernel
theorem dX12_costTried_16 : decode cX12_costTried 16 = .ok (.getfield 62, 3) := by decide +kernel
theorem dX12_costTried_19 : decode cX12_costTried 19 = .ok (.iconst 0, 1) := by decide +kernel
theorem dX12_costTried_20 : decode cX12_costTried 20 = .ok (.iaload, 1) := by decide +kernel
theorem dX12_costTried_21 : decode cX12_costTried 21 = .ok (.if_icmp .ge 23, 3) := by decide +kernel
theorem dX12_costTried_24 : decode cX12_costTried 24 = .ok (.iload_n 1, 1) := by decide +kernel
theorem dX12_costTried_25 : decode cX12_costTried 25 = .ok (.aload_n 0, 1) := by decide +kernel
theorem dX12_costTried_26 : decode cX12_costTried 26 = .ok (.getfield 59, 3) := by decide +kernel
theorem dX12_costTried_29 : decode cX12_costTried 29 = .ok (.aload_n 0, 1) := by decide +kernel
theorem dX12_costTried_30 : decode cX12_costTried 30 = .ok (.getfield 132, 3) := by decide +kernel
theorem dX12_costTried_33 : decode cX12_costTried 33 = .ok (.iload_n 2, 1) := by decide +kernel
theorem dX12_costTried_34 : decode cX12_costTried 34 = .ok (.iaload, 1) := by decide +kernel
theorem dX12_costTried_35 : decode cX12_costTried 35 = .ok (.iaload, 1) := by decide +kernel
theorem dX12_costTried_36 : decode cX12_costTried 36 = .ok (.iadd, 1) := by decide +kernel
theorem dX12_costTried_37 : decode cX12_costTried 37 = .ok (.istore_n 1, 1) := by decide +kernel
theorem dX12_costTried_38 : decode cX12_costTried 38 = .ok (.iinc 2 1, 3) := by decide +kernel
theorem dX12_costTried_41 : decode cX12_costTried 41 = .ok (.goto (-27), 3) := by decide +kernel
theorem dX12_costTried_44 : decode cX12_costTried 44 = .ok (.iload_n 1, 1) := by decide +kernel
theorem dX12_costTried_45 : decode cX12_costTried 45 = .ok (.ireturn, 1) := by decide +kernel
theorem dX12_handPasses_0 : decode cX12_handPasses 0 = .ok (.aload_n 0, 1) := by decide +kernel
theorem dX12_handPasses_1 : decode cX12_handPasses 1 = .ok (.iconst (-1), 1) := by decide +kernel
theorem dX12_handPasses_2 : decode cX12_handPasses 2 = .ok (.putfield 112, 3) := by decide +kernel
theorem dX12_handPasses_5 : decode cX12_handPasses 5 = .ok (.aload_n 0, 1) := by decide +kernel
theorem dX12_handPasses_6 : decode cX12_handPasses 6 = .ok (.getfield 128, 3) := by decide +kernel
theorem dX12_handPasses_9 : decode cX12_handPasses 9 = .ok (.ifCond .eq 12, 3) := by decide +kernel
theorem dX12_handPasses_12 : decode cX12_handPasses 12 = .ok (.aload_n 0, 1) := by decide +kernel
theorem dX12_handPasses_13 : decode cX12_handPasses 13 = .ok (.getfield 62, 3) := by decide +kernel
theorem dX12_handPasses_16 : decode cX12_handPasses 16 = .ok (.iconst 0, 1) := by decide +kernel
theorem dX12_handPasses_17 : decode cX12_handPasses 17 = .ok (.iaload, 1) := by decide +kernel
theorem dX12_handPasses_18 : decode cX12_handPasses 18 = .ok (.ifCond .ne 5, 3) := by decide +kernel
theorem dX12_handPasses_21 : decode cX12_handPasses 21 = .ok (.iconst 0, 1) := by decide +kernel
theorem dX12_handPasses_22 : decode cX12_handPasses 22 = .ok (.ireturn, 1) := by decide +kernel
theorem dX12_handPasses_23 : decode cX12_handPasses 23 = .ok (.aload_n 0, 1) := by decide +kernel
theorem dX12_handPasses_24 : decode cX12_handPasses 24 = .ok (.invokevirtual 440, 3) := by decide +kernel
theorem dX12_handPasses_27 : decode cX12_handPasses 27 = .ok (.aload_n 0, 1) := by decide +kernel
theorem dX12_handPasses_28 : decode cX12_handPasses 28 = .ok (.invokevirtual 443, 3) := by decide +kernel
theorem dX12_handPasses_31 : decode cX12_handPasses 31 = .ok (.ireturn, 1) := by decide +kernel
theorem dX12_chosen_0 : decode cX12_chosen 0 = .ok (.aload_n 0, 1) := by decide +kernel
theorem dX12_chosen_1 : decode cX12_chosen 1 = .ok (.getfield 128, 3) := by decide +kernel
theorem dX12_chosen_4 : decode cX12_chosen 4 = .ok (.ifCond .eq 20, 3) := by decide +kernel
theorem dX12_chosen_7 : decode cX12_chosen 7 = .ok (.aload_n 0, 1) := by decide +kernel
theorem dX12_chosen_8 : decode cX12_chosen 8 = .ok (.iload_n 1, 1) := by decide +kernel
theorem dX12_chosen_9 : decode cX12_chosen 9 = .ok (.invokevirtual 373, 3) := by decide +kernel
theorem dX12_chosen_12 : decode cX12_chosen 12 = .ok (.ifCond .eq 12, 3) := by decide +kernel
theorem dX12_chosen_15 : decode cX12_chosen 15 = .ok (.aload_n 0, 1) := by decide +kernel
theorem dX12_chosen_16 : decode cX12_chosen 16 = .ok (.getfield 125, 3) := by decide +kernel
theorem dX12_chosen_19 : decode cX12_chosen 19 = .ok (.iload_n 1, 1) := by decide +kernel
theorem dX12_chosen_20 : decode cX12_chosen 20 = .ok (.iaload, 1) := by decide +kernel
theorem dX12_chosen_21 : decode cX12_chosen 21 = .ok (.goto 4, 3) := by decide +kernel
theorem dX12_chosen_24 : decode cX12_chosen 24 = .ok (.iconst (-1), 1) := by decide +kernel
theorem dX12_chosen_25 : decode cX12_chosen 25 = .ok (.ireturn, 1) := by decide +kernel
theorem dX12_choose_0 : decode cX12_choose 0 = .ok (.aload_n 0, 1) := by decide +kernel
theorem dX12_choose_1 : decode cX12_choose 1 = .ok (.getfield 128, 3) := by decide +kernel
theorem dX12_choose_4 : decode cX12_choose 4 = .ok (.ifCond .eq 32, 3) := by decide +kernel
theorem dX12_choose_7 : decode cX12_choose 7 = .ok (.aload_n 0, 1) := by decide +kernel
theorem dX12_choose_8 : decode cX12_choose 8 = .ok (.iload_n 1, 1) := by decide +kernel
theorem dX12_choose_9 : decode cX12_choose 9 = .ok (.invokevirtual 373, 3) := by decide +kernel
theorem dX12_choose_12 : decode cX12_choose 12 = .ok (.ifCond .eq 24, 3) := by decide +kernel
theorem dX12_choose_15 : decode cX12_choose 15 = .ok (.aload_n 0, 1) := by decide +kernel
theorem dX12_choose_16 : decode cX12_choose 16 = .ok (.iload_n 2, 1) := by decide +kernel
theorem dX12_choose_17 : decode cX12_choose 17 = .ok (.invokevirtual 370, 3) := by decide +kernel
theorem dX12_choose_20 : decode cX12_choose 20 = .ok (.ifCond .eq 16, 3) := by decide +kernel
theorem dX12_choose_23 : decode cX12_choose 23 = .ok (.aload_n 0, 1) := by decide +kernel
theorem dX12_choose_24 : decode cX12_choose 24 = .ok (.aload_n 0, 1) := by decide +kernel
theorem dX12_choose_25 : decode cX12_choose 25 = .ok (.getfield 93, 3) := by decide +kernel
theorem dX12_choose_28 : decode cX12_choose 28 = .ok (.iload_n 1, 1) := by decide +kernel
theorem dX12_choose_29 : decode cX12_choose 29 = .ok (.iaload, 1) := by decide +kernel
theorem dX12_choose_30 : decode cX12_choose 30 = .ok (.invokevirtual 355, 3) := by decide +kernel
theorem dX12_choose_33 : decode cX12_choose 33 = .ok (.ifCond .ne 9, 3) := by decide +kernel
theorem dX12_choose_36 : decode cX12_choose 36 = .ok (.aload_n 0, 1) := by decide +kernel
theorem dX12_choose_37 : decode cX12_choose 37 = .ok (.iconst 2, 1) := by decide +kernel
theorem dX12_choose_38 : decode cX12_choose 38 = .ok (.invokevirtual 216, 3) := by decide +kernel
theorem dX12_choose_41 : decode cX12_choose 41 = .ok (.ireturn, 1) := by decide +kernel
theorem dX12_choose_42 : decode cX12_choose 42 = .ok (.aload_n 0, 1) := by decide +kernel
theorem dX12_choose_43 : decode cX12_choose 43 = .ok (.getfield 125, 3) := by decide +kernel
theorem dX12_choose_46 : decode cX12_choose 46 = .ok (.iload_n 1, 1) := by decide +kernel
theorem dX12_choose_47 : decode cX12_choose 47 = .ok (.iaload, 1) := by decide +kernel
theorem dX12_choose_48 : decode cX12_choose 48 = .ok (.istore_n 3, 1) := by decide +kernel
theorem dX12_choose_49 : decode cX12_choose 49 = .ok (.iconst 0, 1) := by decide +kernel
theorem dX12_choose_50 : decode cX12_choose 50 = .ok (.istore 4, 2) := by decide +kernel
theorem dX12_choose_52 : decode cX12_choose 52 = .ok (.iload 4, 2) := by decide +kernel
theorem dX12_choose_54 : decode cX12_choose 54 = .ok (.aload_n 0, 1) := by decide +kernel
theorem dX12_choose_55 : decode cX12_choose 55 = .ok (.getfield 62, 3) := by decide +kernel
theorem dX12_choose_58 : decode cX12_choose 58 = .ok (.iconst 0, 1) := by decide +kernel
theorem dX12_choose_59 : decode cX12_choose 59 = .ok (.iaload, 1) := by decide +kernel
theorem dX12_choose_60 : decode cX12_choose 60 = .ok (.if_icmp .ge 43, 3) := by decide +kernel
theorem dX12_choose_63 : decode cX12_choose 63 = .ok (.aload_n 0, 1) := by decide +kernel
theorem dX12_choose_64 : decode cX12_choose 64 = .ok (.getfield 125, 3) := by decide +kernel
theorem dX12_choose_67 : decode cX12_choose 67 = .ok (.iload 4, 2) := by decide +kernel
theorem dX12_choose_69 : decode cX12_choose 69 = .ok (.aload_n 0, 1) := by decide +kernel
theorem dX12_choose_70 : decode cX12_choose 70 = .ok (.getfield 93, 3) := by decide +kernel
theorem dX12_choose_73 : decode cX12_choose 73 = .ok (.iload 4, 2) := by decide +kernel
theorem dX12_choose_75 : decode cX12_choose 75 = .ok (.iaload, 1) := by decide +kernel
theorem dX12_choose_76 : decode cX12_choose 76 = .ok (.aload_n 0, 1) := by decide +kernel
theorem dX12_choose_77 : decode cX12_choose 77 = .ok (.getfield 93, 3) := by decide +kernel
theorem dX12_choose_80 : decode cX12_choose 80 = .ok (.iload_n 1, 1) := by decide +kernel
theorem dX12_choose_81 : decode cX12_choose 81 = .ok (.iaload, 1) := by decide +kernel
theorem dX12_choose_82 : decode cX12_choose 82 = .ok (.if_icmp .ne 7, 3) := by decide +kernel
theorem dX12_choose_85 : decode cX12_choose 85 = .ok (.iload_n 2, 1) := by decide +kernel
theorem dX12_choose_86 : decode cX12_choose 86 = .ok (.goto 10, 3) := by decide +kernel
theorem dX12_choose_89 : decode cX12_choose 89 = .ok (.aload_n 0, 1) := by decide +kernel
theorem dX12_choose_90 : decode cX12_choose 90 = .ok (.getfield 125, 3) := by decide +kernel
theorem dX12_choose_93 : decode cX12_choose 93 = .ok (.iload 4, 2) := by decide +kernel
theorem dX12_choose_95 : decode cX12_choose 95 = .ok (.iaload, 1) := by decide +kernel
theorem dX12_choose_96 : decode cX12_choose 96 = .ok (.iastore, 1) := by decide +kernel
theorem dX12_choose_97 : decode cX12_choose 97 = .ok (.iinc 4 1, 3) := by decide +kernel
theorem dX12_choose_100 : decode cX12_choose 100 = .ok (.goto (-48), 3) := by decide +kernel
theorem dX12_choose_103 : decode cX12_choose 103 = .ok (.iload_n 3, 1) := by decide +kernel
theorem dX12_choose_104 : decode cX12_choose 104 = .ok (.ireturn, 1) := by decide +kernel
theorem dX12_isThere_0 : decode cX12_isThere 0 = .ok (.aload_n 0, 1) := by decide +kernel
theorem dX12_isThere_1 : decode cX12_isThere 1 = .ok (.getfield 128, 3) := by decide +kernel
theorem dX12_isThere_4 : decode cX12_isThere 4 = .ok (.ifCond .eq 16, 3) := by decide +kernel
theorem dX12_isThere_7 : decode cX12_isThere 7 = .ok (.aload_n 0, 1) := by decide +kernel
theorem dX12_isThere_8 : decode cX12_isThere 8 = .ok (.getfield 62, 3) := by decide +kernel
theorem dX12_isThere_11 : decode cX12_isThere 11 = .ok (.iconst 0, 1) := by decide +kernel
theorem dX12_isThere_12 : decode cX12_isThere 12 = .ok (.iaload, 1) := by decide +kernel
theorem dX12_isThere_13 : decode cX12_isThere 13 = .ok (.ifCond .le 7, 3) := by decide +kernel
theorem dX12_isThere_16 : decode cX12_isThere 16 = .ok (.iconst 1, 1) := by decide +kernel
theorem dX12_isThere_17 : decode cX12_isThere 17 = .ok (.goto 4, 3) := by decide +kernel
theorem dX12_isThere_20 : decode cX12_isThere 20 = .ok (.iconst 0, 1) := by decide +kernel
theorem dX12_isThere_21 : decode cX12_isThere 21 = .ok (.ireturn, 1) := by decide +kernel
theorem dX12_cost_0 : decode cX12_cost 0 = .ok (.aload_n 0, 1) := by decide +kernel
theorem dX12_cost_1 : decode cX12_cost 1 = .ok (.invokevirtual 446, 3) := by decide +kernel
theorem dX12_cost_4 : decode cX12_cost 4 = .ok (.ifCond .ne 5, 3) := by decide +kernel
theorem dX12_cost_7 : decode cX12_cost 7 = .ok (.iconst (-1), 1) := by decide +kernel
theorem dX12_cost_8 : decode cX12_cost 8 = .ok (.ireturn, 1) := by decide +kernel
theorem dX12_cost_9 : decode cX12_cost 9 = .ok (.aload_n 0, 1) := by decide +kernel
theorem dX12_cost_10 : decode cX12_cost 10 = .ok (.invokevirtual 440, 3) := by decide +kernel
theorem dX12_cost_13 : decode cX12_cost 13 = .ok (.aload_n 0, 1) := by decide +kernel
theorem dX12_cost_14 : decode cX12_cost 14 = .ok (.invokevirtual 449, 3) := by decide +kernel
theorem dX12_cost_17 : decode cX12_cost 17 = .ok (.ireturn, 1) := by decide +kernel
theorem dX12_casts_0 : decode cX12_casts 0 = .ok (.aload_n 0, 1) := by decide +kernel
theorem dX12_casts_1 : decode cX12_casts 1 = .ok (.invokevirtual 446, 3) := by decide +kernel
theorem dX12_casts_4 : decode cX12_casts 4 = .ok (.ifCond .ne 5, 3) := by decide +kernel
theorem dX12_casts_7 : decode cX12_casts 7 = .ok (.iconst (-1), 1) := by decide +kernel
theorem dX12_casts_8 : decode cX12_casts 8 = .ok (.ireturn, 1) := by decide +kernel
theorem dX12_casts_9 : decode cX12_casts 9 = .ok (.aload_n 0, 1) := by decide +kernel
theorem dX12_casts_10 : decode cX12_casts 10 = .ok (.invokevirtual 440, 3) := by decide +kernel
theorem dX12_casts_13 : decode cX12_casts 13 = .ok (.aload_n 0, 1) := by decide +kernel
theorem dX12_casts_14 : decode cX12_casts 14 = .ok (.invokevirtual 437, 3) := by decide +kernel
theorem dX12_casts_17 : decode cX12_casts 17 = .ok (.ireturn, 1) := by decide +kernel
theorem dX12_fails_0 : decode cX12_fails 0 = .ok (.aload_n 0, 1) := by decide +kernel
theorem dX12_fails_1 : decode cX12_fails 1 = .ok (.invokevirtual 446, 3) := by decide +kernel
theorem dX12_fails_4 : decode cX12_fails 4 = .ok (.ifCond .ne 5, 3) := by decide +kernel
theorem dX12_fails_7 : decode cX12_fails 7 = .ok (.iconst (-1), 1) := by decide +kernel
theorem dX12_fails_8 : decode cX12_fails 8 = .ok (.ireturn, 1) := by decide +kernel
theorem dX12_fails_9 : decode cX12_fails 9 = .ok (.aload_n 0, 1) := by decide +kernel
theorem dX12_fails_10 : decode cX12_fails 10 = .ok (.invokevirtual 452, 3) := by decide +kernel
theorem dX12_fails_13 : decode cX12_fails 13 = .ok (.ifCond .eq 8, 3) := by decide +kernel
theorem dX12_fails_16 : decode cX12_fails 16 = .ok (.bipush (-2), 2) := by decide +kernel
theorem dX12_fails_18 : decode cX12_fails 18 = .ok (.goto 7, 3) := by decide +kernel
theorem dX12_fails_21 : decode cX12_fails 21 = .ok (.aload_n 0, 1) := by decide +kernel
theorem dX12_fails_22 : decode cX12_fails 22 = .ok (.getfield 138, 3) := by decide +kernel
theorem dX12_fails_25 : decode cX12_fails 25 = .ok (.ireturn, 1) := by decide +kernel
theorem dX12_why_0 : decode cX12_why 0 = .ok (.aload_n 0, 1) := by decide +kernel
theorem dX12_why_1 : decode cX12_why 1 = .ok (.invokevirtual 446, 3) := by decide +kernel
theorem dX12_why_4 : decode cX12_why 4 = .ok (.ifCond .ne 5, 3) := by decide +kernel
theorem dX12_why_7 : decode cX12_why 7 = .ok (.iconst (-1), 1) := by decide +kernel
theorem dX12_why_8 : decode cX12_why 8 = .ok (.ireturn, 1) := by decide +kernel
theorem dX12_why_9 : decode cX12_why 9 = .ok (.aload_n 0, 1) := by decide +kernel
theorem dX12_why_10 : decode cX12_why 10 = .ok (.invokevirtual 452, 3) := by decide +kernel
theorem dX12_why_13 : decode cX12_why 13 = .ok (.ifCond .eq 7, 3) := by decide +kernel
theorem dX12_why_16 : decode cX12_why 16 = .ok (.iconst 0, 1) := by decide +kernel
theorem dX12_why_17 : decode cX12_why 17 = .ok (.goto 7, 3) := by decide +kernel
theorem dX12_why_20 : decode cX12_why 20 = .ok (.aload_n 0, 1) := by decide +kernel
theorem dX12_why_21 : decode cX12_why 21 = .ok (.getfield 141, 3) := by decide +kernel
theorem dX12_why_24 : decode cX12_why 24 = .ok (.ireturn, 1) := by decide +kernel
theorem dX12_error_0 : decode cX12_error 0 = .ok (.aload_n 0, 1) := by decide +kernel
theorem dX12_error_1 : decode cX12_error 1 = .ok (.invokevirtual 446, 3) := by decide +kernel
theorem dX12_error_4 : decode cX12_error 4 = .ok (.ifCond .eq 11, 3) := by decide +kernel
theorem dX12_error_7 : decode cX12_error 7 = .ok (.aload_n 0, 1) := by decide +kernel
theorem dX12_error_8 : decode cX12_error 8 = .ok (.iload_n 1, 1) := by decide +kernel
theorem dX12_error_9 : decode cX12_error 9 = .ok (.invokevirtual 373, 3) := by decide +kernel
theorem dX12_error_12 : decode cX12_error 12 = .ok (.ifCond .ne 7, 3) := by decide +kernel
theorem dX12_error_15 : decode cX12_error 15 = .ok (.ldc2_w 381, 3) := by decide +kernel
theorem dX12_error_18 : decode cX12_error 18 = .ok (.lreturn, 1) := by decide +kernel
theorem dX12_error_19 : decode cX12_error 19 = .ok (.aload_n 0, 1) := by decide +kernel
theorem dX12_error_20 : decode cX12_error 20 = .ok (.invokevirtual 452, 3) := by decide +kernel
theorem dX12_error_23 : decode cX12_error 23 = .ok (.istore_n 2, 1) := by decide +kernel
theorem dX12_error_24 : decode cX12_error 24 = .ok (.iload_n 2, 1) := by decide +kernel
theorem dX12_error_25 : decode cX12_error 25 = .ok (.ifCond .ne 11, 3) := by decide +kernel
theorem dX12_error_28 : decode cX12_error 28 = .ok (.iload_n 1, 1) := by decide +kernel
theorem dX12_error_29 : decode cX12_error 29 = .ok (.aload_n 0, 1) := by decide +kernel
theorem dX12_error_30 : decode cX12_error 30 = .ok (.getfield 138, 3) := by decide +kernel
theorem dX12_error_33 : decode cX12_error 33 = .ok (.if_icmp .gt 12, 3) := by decide +kernel
theorem dX12_error_36 : decode cX12_error 36 = .ok (.aload_n 0, 1) := by decide +kernel
theorem dX12_error_37 : decode cX12_error 37 = .ok (.getfield 135, 3) := by decide +kernel
theorem dX12_error_40 : decode cX12_error 40 = .ok (.iload_n 1, 1) := by decide +kernel
theorem dX12_error_41 : decode cX12_error 41 = .ok (.laload, 1) := by decide +kernel
theorem dX12_error_42 : decode cX12_error 42 = .ok (.goto 6, 3) := by decide +kernel
theorem dX12_error_45 : decode cX12_error 45 = .ok (.ldc2_w 381, 3) := by decide +kernel
theorem dX12_error_48 : decode cX12_error 48 = .ok (.lreturn, 1) := by decide +kernel
theorem dX12_isAnswer_0 : decode cX12_isAnswer 0 = .ok (.aload_n 0, 1) := by decide +kernel
theorem dX12_isAnswer_1 : decode cX12_isAnswer 1 = .ok (.iload_n 1, 1) := by decide +kernel
theorem dX12_isAnswer_2 : decode cX12_isAnswer 2 = .ok (.invokevirtual 373, 3) := by decide +kernel
theorem dX12_isAnswer_5 : decode cX12_isAnswer 5 = .ok (.ifCond .eq 17, 3) := by decide +kernel
theorem dX12_isAnswer_8 : decode cX12_isAnswer 8 = .ok (.aload_n 0, 1) := by decide +kernel
theorem dX12_isAnswer_9 : decode cX12_isAnswer 9 = .ok (.getfield 90, 3) := by decide +kernel
theorem dX12_isAnswer_12 : decode cX12_isAnswer 12 = .ok (.iload_n 1, 1) := by decide +kernel
theorem dX12_isAnswer_13 : decode cX12_isAnswer 13 = .ok (.iaload, 1) := by decide +kernel
theorem dX12_isAnswer_14 : decode cX12_isAnswer 14 = .ok (.iconst (-1), 1) := by decide +kernel
theorem dX12_isAnswer_15 : decode cX12_isAnswer 15 = .ok (.if_icmp .eq 7, 3) := by decide +kernel
theorem dX12_isAnswer_18 : decode cX12_isAnswer 18 = .ok (.iconst 1, 1) := by decide +kernel
theorem dX12_isAnswer_19 : decode cX12_isAnswer 19 = .ok (.goto 4, 3) := by decide +kernel
theorem dX12_isAnswer_22 : decode cX12_isAnswer 22 = .ok (.iconst 0, 1) := by decide +kernel
theorem dX12_isAnswer_23 : decode cX12_isAnswer 23 = .ok (.ireturn, 1) := by decide +kernel
theorem dX12_slack_0 : decode cX12_slack 0 = .ok (.aload_n 0, 1) := by decide +kernel
theorem dX12_slack_1 : decode cX12_slack 1 = .ok (.iload_n 1, 1) := by decide +kernel
theorem dX12_slack_2 : decode cX12_slack 2 = .ok (.invokevirtual 455, 3) := by decide +kernel
theorem dX12_slack_5 : decode cX12_slack 5 = .ok (.ifCond .eq 27, 3) := by decide +kernel
theorem dX12_slack_8 : decode cX12_slack 8 = .ok (.aload_n 0, 1) := by decide +kernel
theorem dX12_slack_9 : decode cX12_slack 9 = .ok (.invokevirtual 452, 3) := by decide +kernel
theorem dX12_slack_12 : decode cX12_slack 12 = .ok (.ifCond .eq 20, 3) := by decide +kernel
theorem dX12_slack_15 : decode cX12_slack 15 = .ok (.aload_n 0, 1) := by decide +kernel
theorem dX12_slack_16 : decode cX12_slack 16 = .ok (.getfield 90, 3) := by decide +kernel
theorem dX12_slack_19 : decode cX12_slack 19 = .ok (.iload_n 1, 1) := by decide +kernel
theorem dX12_slack_20 : decode cX12_slack 20 = .ok (.iaload, 1) := by decide +kernel
theorem dX12_slack_21 : decode cX12_slack 21 = .ok (.i2l, 1) := by decide +kernel
theorem dX12_slack_22 : decode cX12_slack 22 = .ok (.aload_n 0, 1) := by decide +kernel
theorem dX12_slack_23 : decode cX12_slack 23 = .ok (.getfield 135, 3) := by decide +kernel
theorem dX12_slack_26 : decode cX12_slack 26 = .ok (.iload_n 1, 1) := by decide +kernel
theorem dX12_slack_27 : decode cX12_slack 27 = .ok (.laload, 1) := by decide +kernel
theorem dX12_slack_28 : decode cX12_slack 28 = .ok (.lsub, 1) := by decide +kernel
theorem dX12_slack_29 : decode cX12_slack 29 = .ok (.goto 6, 3) := by decide +kernel
theorem dX12_slack_32 : decode cX12_slack 32 = .ok (.ldc2_w 381, 3) := by decide +kernel
theorem dX12_slack_35 : decode cX12_slack 35 = .ok (.lreturn, 1) := by decide +kernel
theorem dX12_widest_0 : decode cX12_widest 0 = .ok (.aload_n 0, 1) := by decide +kernel
theorem dX12_widest_1 : decode cX12_widest 1 = .ok (.iload_n 1, 1) := by decide +kernel
theorem dX12_widest_2 : decode cX12_widest 2 = .ok (.invokevirtual 373, 3) := by decide +kernel
theorem dX12_widest_5 : decode cX12_widest 5 = .ok (.ifCond .eq 19, 3) := by decide +kernel
theorem dX12_widest_8 : decode cX12_widest 8 = .ok (.aload_n 0, 1) := by decide +kernel
theorem dX12_widest_9 : decode cX12_widest 9 = .ok (.getfield 68, 3) := by decide +kernel
theorem dX12_widest_12 : decode cX12_widest 12 = .ok (.iload_n 1, 1) := by decide +kernel
theorem dX12_widest_13 : decode cX12_widest 13 = .ok (.iaload, 1) := by decide +kernel
theorem dX12_widest_14 : decode cX12_widest 14 = .ok (.ifCond .ne 10, 3) := by decide +kernel
theorem dX12_widest_17 : decode cX12_widest 17 = .ok (.aload_n 0, 1) := by decide +kernel
theorem dX12_widest_18 : decode cX12_widest 18 = .ok (.invokevirtual 452, 3) := by decide +kernel
theorem dX12_widest_21 : decode cX12_widest 21 = .ok (.ifCond .ne 5, 3) := by decide +kernel
theorem dX12_widest_24 : decode cX12_widest 24 = .ok (.iconst (-1), 1) := by decide +kernel
theorem dX12_widest_25 : decode cX12_widest 25 = .ok (.ireturn, 1) := by decide +kernel
theorem dX12_widest_26 : decode cX12_widest 26 = .ok (.iconst 0, 1) := by decide +kernel
theorem dX12_widest_27 : decode cX12_widest 27 = .ok (.istore_n 2, 1) := by decide +kernel
theorem dX12_widest_28 : decode cX12_widest 28 = .ok (.ldc_w 458, 3) := by decide +kernel
theorem dX12_widest_31 : decode cX12_widest 31 = .ok (.istore_n 3, 1) := by decide +kernel
theorem dX12_widest_32 : decode cX12_widest 32 = .ok (.aload_n 0, 1) := by decide +kernel
theorem dX12_widest_33 : decode cX12_widest 33 = .ok (.iload_n 1, 1) := by decide +kernel
theorem dX12_widest_34 : decode cX12_widest 34 = .ok (.putfield 112, 3) := by decide +kernel
theorem dX12_widest_37 : decode cX12_widest 37 = .ok (.iload_n 2, 1) := by decide +kernel
theorem dX12_widest_38 : decode cX12_widest 38 = .ok (.iload_n 3, 1) := by decide +kernel
theorem dX12_widest_39 : decode cX12_widest 39 = .ok (.if_icmp .ge 42, 3) := by decide +kernel
theorem dX12_widest_42 : decode cX12_widest 42 = .ok (.iload_n 2, 1) := by decide +kernel
theorem dX12_widest_43 : decode cX12_widest 43 = .ok (.iload_n 3, 1) := by decide +kernel
theorem dX12_widest_44 : decode cX12_widest 44 = .ok (.iload_n 2, 1) := by decide +kernel
theorem dX12_widest_45 : decode cX12_widest 45 = .ok (.isub, 1) := by decide +kernel
theorem dX12_widest_46 : decode cX12_widest 46 = .ok (.iconst 1, 1) := by decide +kernel
theorem dX12_widest_47 : decode cX12_widest 47 = .ok (.iadd, 1) := by decide +kernel
theorem dX12_widest_48 : decode cX12_widest 48 = .ok (.iconst 2, 1) := by decide +kernel
theorem dX12_widest_49 : decode cX12_widest 49 = .ok (.idiv, 1) := by decide +kernel
theorem dX12_widest_50 : decode cX12_widest 50 = .ok (.iadd, 1) := by decide +kernel
theorem dX12_widest_51 : decode cX12_widest 51 = .ok (.istore 4, 2) := by decide +kernel
theorem dX12_widest_53 : decode cX12_widest 53 = .ok (.aload_n 0, 1) := by decide +kernel
theorem dX12_widest_54 : decode cX12_widest 54 = .ok (.iload 4, 2) := by decide +kernel
theorem dX12_widest_56 : decode cX12_widest 56 = .ok (.i2l, 1) := by decide +kernel
theorem dX12_widest_57 : decode cX12_widest 57 = .ok (.putfield 115, 3) := by decide +kernel
theorem dX12_widest_60 : decode cX12_widest 60 = .ok (.aload_n 0, 1) := by decide +kernel
theorem dX12_widest_61 : decode cX12_widest 61 = .ok (.invokevirtual 443, 3) := by decide +kernel
theorem dX12_widest_64 : decode cX12_widest 64 = .ok (.ifCond .eq 9, 3) := by decide +kernel
theorem dX12_widest_67 : decode cX12_widest 67 = .ok (.iload 4, 2) := by decide +kernel
theorem dX12_widest_69 : decode cX12_widest 69 = .ok (.istore_n 2, 1) := by decide +kernel
theorem dX12_widest_70 : decode cX12_widest 70 = .ok (.goto 8, 3) := by decide +kernel
theorem dX12_widest_73 : decode cX12_widest 73 = .ok (.iload 4, 2) := by decide +kernel
theorem dX12_widest_75 : decode cX12_widest 75 = .ok (.iconst 1, 1) := by decide +kernel
theorem dX12_widest_76 : decode cX12_widest 76 = .ok (.isub, 1) := by decide +kernel
theorem dX12_widest_77 : decode cX12_widest 77 = .ok (.istore_n 3, 1) := by decide +kernel
theorem dX12_widest_78 : decode cX12_widest 78 = .ok (.goto (-41), 3) := by decide +kernel
theorem dX12_widest_81 : decode cX12_widest 81 = .ok (.aload_n 0, 1) := by decide +kernel
theorem dX12_widest_82 : decode cX12_widest 82 = .ok (.iconst (-1), 1) := by decide +kernel
theorem dX12_widest_83 : decode cX12_widest 83 = .ok (.putfield 112, 3) := by decide +kernel
theorem dX12_widest_86 : decode cX12_widest 86 = .ok (.iload_n 2, 1) := by decide +kernel
theorem dX12_widest_87 : decode cX12_widest 87 = .ok (.ireturn, 1) := by decide +kernel
theorem dX12_finest_0 : decode cX12_finest 0 = .ok (.iconst 0, 1) := by decide +kernel
theorem dX12_finest_1 : decode cX12_finest 1 = .ok (.istore_n 1, 1) := by decide +kernel
theorem dX12_finest_2 : decode cX12_finest 2 = .ok (.iconst 1, 1) := by decide +kernel
theorem dX12_finest_3 : decode cX12_finest 3 = .ok (.istore_n 2, 1) := by decide +kernel
theorem dX12_finest_4 : decode cX12_finest 4 = .ok (.iload_n 2, 1) := by decide +kernel
theorem dX12_finest_5 : decode cX12_finest 5 = .ok (.aload_n 0, 1) := by decide +kernel
theorem dX12_finest_6 : decode cX12_finest 6 = .ok (.getfield 47, 3) := by decide +kernel
theorem dX12_finest_9 : decode cX12_finest 9 = .ok (.iconst 0, 1) := by decide +kernel
theorem dX12_finest_10 : decode cX12_finest 10 = .ok (.iaload, 1) := by decide +kernel
theorem dX12_finest_11 : decode cX12_finest 11 = .ok (.if_icmp .ge 26, 3) := by decide +kernel
theorem dX12_finest_14 : decode cX12_finest 14 = .ok (.aload_n 0, 1) := by decide +kernel
theorem dX12_finest_15 : decode cX12_finest 15 = .ok (.getfield 53, 3) := by decide +kernel
theorem dX12_finest_18 : decode cX12_finest 18 = .ok (.iload_n 2, 1) := by decide +kernel
theorem dX12_finest_19 : decode cX12_finest 19 = .ok (.iaload, 1) := by decide +kernel
theorem dX12_finest_20 : decode cX12_finest 20 = .ok (.aload_n 0, 1) := by decide +kernel
theorem dX12_finest_21 : decode cX12_finest 21 = .ok (.getfield 53, 3) := by decide +kernel
theorem dX12_finest_24 : decode cX12_finest 24 = .ok (.iload_n 1, 1) := by decide +kernel
theorem dX12_finest_25 : decode cX12_finest 25 = .ok (.iaload, 1) := by decide +kernel
theorem dX12_finest_26 : decode cX12_finest 26 = .ok (.if_icmp .ge 5, 3) := by decide +kernel
theorem dX12_finest_29 : decode cX12_finest 29 = .ok (.iload_n 2, 1) := by decide +kernel
theorem dX12_finest_30 : decode cX12_finest 30 = .ok (.istore_n 1, 1) := by decide +kernel
theorem dX12_finest_31 : decode cX12_finest 31 = .ok (.iinc 2 1, 3) := by decide +kernel
theorem dX12_finest_34 : decode cX12_finest 34 = .ok (.goto (-30), 3) := by decide +kernel
theorem dX12_finest_37 : decode cX12_finest 37 = .ok (.iload_n 1, 1) := by decide +kernel
theorem dX12_finest_38 : decode cX12_finest 38 = .ok (.ireturn, 1) := by decide +kernel
theorem dX12_blame_0 : decode cX12_blame 0 = .ok (.aload_n 0, 1) := by decide +kernel
theorem dX12_blame_1 : decode cX12_blame 1 = .ok (.iload_n 1, 1) := by decide +kernel
theorem dX12_blame_2 : decode cX12_blame 2 = .ok (.invokevirtual 455, 3) := by decide +kernel
theorem dX12_blame_5 : decode cX12_blame 5 = .ok (.ifCond .eq 31, 3) := by decide +kernel
theorem dX12_blame_8 : decode cX12_blame 8 = .ok (.aload_n 0, 1) := by decide +kernel
theorem dX12_blame_9 : decode cX12_blame 9 = .ok (.iload_n 2, 1) := by decide +kernel
theorem dX12_blame_10 : decode cX12_blame 10 = .ok (.invokevirtual 373, 3) := by decide +kernel
theorem dX12_blame_13 : decode cX12_blame 13 = .ok (.ifCond .eq 23, 3) := by decide +kernel
theorem dX12_blame_16 : decode cX12_blame 16 = .ok (.aload_n 0, 1) := by decide +kernel
theorem dX12_blame_17 : decode cX12_blame 17 = .ok (.aload_n 0, 1) := by decide +kernel
theorem dX12_blame_18 : decode cX12_blame 18 = .ok (.getfield 93, 3) := by decide +kernel
theorem dX12_blame_21 : decode cX12_blame 21 = .ok (.iload_n 2, 1) := by decide +kernel
theorem dX12_blame_22 : decode cX12_blame 22 = .ok (.iaload, 1) := by decide +kernel
theorem dX12_blame_23 : decode cX12_blame 23 = .ok (.invokevirtual 355, 3) := by decide +kernel
theorem dX12_blame_26 : decode cX12_blame 26 = .ok (.ifCond .eq 10, 3) := by decide +kernel
theorem dX12_blame_29 : decode cX12_blame 29 = .ok (.aload_n 0, 1) := by decide +kernel
theorem dX12_blame_30 : decode cX12_blame 30 = .ok (.invokevirtual 452, 3) := by decide +kernel
theorem dX12_blame_33 : decode cX12_blame 33 = .ok (.ifCond .ne 7, 3) := by decide +kernel
theorem dX12_blame_36 : decode cX12_blame 36 = .ok (.ldc2_w 381, 3) := by decide +kernel
theorem dX12_blame_39 : decode cX12_blame 39 = .ok (.lreturn, 1) := by decide +kernel
theorem dX12_blame_40 : decode cX12_blame 40 = .ok (.aload_n 0, 1) := by decide +kernel
theorem dX12_blame_41 : decode cX12_blame 41 = .ok (.getfield 135, 3) := by decide +kernel
theorem dX12_blame_44 : decode cX12_blame 44 = .ok (.iload_n 1, 1) := by decide +kernel
theorem dX12_blame_45 : decode cX12_blame 45 = .ok (.laload, 1) := by decide +kernel
theorem dX12_blame_46 : decode cX12_blame 46 = .ok (.lstore_n 3, 1) := by decide +kernel
theorem dX12_blame_47 : decode cX12_blame 47 = .ok (.aload_n 0, 1) := by decide +kernel
theorem dX12_blame_48 : decode cX12_blame 48 = .ok (.aload_n 0, 1) := by decide +kernel
theorem dX12_blame_49 : decode cX12_blame 49 = .ok (.getfield 93, 3) := by decide +kernel
theorem dX12_blame_52 : decode cX12_blame 52 = .ok (.iload_n 2, 1) := by decide +kernel
theorem dX12_blame_53 : decode cX12_blame 53 = .ok (.iaload, 1) := by decide +kernel
theorem dX12_blame_54 : decode cX12_blame 54 = .ok (.aload_n 0, 1) := by decide +kernel
theorem dX12_blame_55 : decode cX12_blame 55 = .ok (.invokevirtual 459, 3) := by decide +kernel
theorem dX12_blame_58 : decode cX12_blame 58 = .ok (.invokevirtual 462, 3) := by decide +kernel
theorem dX12_blame_61 : decode cX12_blame 61 = .ok (.aload_n 0, 1) := by decide +kernel
theorem dX12_blame_62 : decode cX12_blame 62 = .ok (.invokevirtual 443, 3) := by decide +kernel
theorem dX12_blame_65 : decode cX12_blame 65 = .ok (.ifCond .eq 14, 3) := by decide +kernel
theorem dX12_blame_68 : decode cX12_blame 68 = .ok (.lload_n 3, 1) := by decide +kernel
theorem dX12_blame_69 : decode cX12_blame 69 = .ok (.aload_n 0, 1) := by decide +kernel
theorem dX12_blame_70 : decode cX12_blame 70 = .ok (.getfield 135, 3) := by decide +kernel
theorem dX12_blame_73 : decode cX12_blame 73 = .ok (.iload_n 1, 1) := by decide +kernel
theorem dX12_blame_74 : decode cX12_blame 74 = .ok (.laload, 1) := by decide +kernel
theorem dX12_blame_75 : decode cX12_blame 75 = .ok (.lsub, 1) := by decide +kernel
theorem dX12_blame_76 : decode cX12_blame 76 = .ok (.goto 6, 3) := by decide +kernel
theorem dX12_blame_79 : decode cX12_blame 79 = .ok (.ldc2_w 381, 3) := by decide +kernel
theorem dX12_blame_82 : decode cX12_blame 82 = .ok (.lreturn, 1) := by decide +kernel
theorem dX12_canSearch_0 : decode cX12_canSearch 0 = .ok (.aload_n 0, 1) := by decide +kernel
theorem dX12_canSearch_1 : decode cX12_canSearch 1 = .ok (.invokevirtual 358, 3) := by decide +kernel
theorem dX12_canSearch_4 : decode cX12_canSearch 4 = .ok (.aload_n 0, 1) := by decide +kernel
theorem dX12_canSearch_5 : decode cX12_canSearch 5 = .ok (.iconst (-1), 1) := by decide +kernel
theorem dX12_canSearch_6 : decode cX12_canSearch 6 = .ok (.putfield 112, 3) := by decide +kernel
theorem dX12_canSearch_9 : decode cX12_canSearch 9 = .ok (.aload_n 0, 1) := by decide +kernel
theorem dX12_canSearch_10 : decode cX12_canSearch 10 = .ok (.getfield 62, 3) := by decide +kernel
theorem dX12_canSearch_13 : decode cX12_canSearch 13 = .ok (.iconst 0, 1) := by decide +kernel
theorem dX12_canSearch_14 : decode cX12_canSearch 14 = .ok (.iaload, 1) := by decide +kernel
theorem dX12_canSearch_15 : decode cX12_canSearch 15 = .ok (.ifCond .le 22, 3) := by decide +kernel
theorem dX12_canSearch_18 : decode cX12_canSearch 18 = .ok (.aload_n 0, 1) := by decide +kernel
theorem dX12_canSearch_19 : decode cX12_canSearch 19 = .ok (.getfield 128, 3) := by decide +kernel
theorem dX12_canSearch_22 : decode cX12_canSearch 22 = .ok (.ifCond .eq 15, 3) := by decide +kernel
theorem dX12_canSearch_25 : decode cX12_canSearch 25 = .ok (.aload_n 0, 1) := by decide +kernel
theorem dX12_canSearch_26 : decode cX12_canSearch 26 = .ok (.getfield 103, 3) := by decide +kernel
theorem dX12_canSearch_29 : decode cX12_canSearch 29 = .ok (.iconst 5, 1) := by decide +kernel
theorem dX12_canSearch_30 : decode cX12_canSearch 30 = .ok (.if_icmp .gt 7, 3) := by decide +kernel
theorem dX12_canSearch_33 : decode cX12_canSearch 33 = .ok (.iconst 1, 1) := by decide +kernel
theorem dX12_canSearch_34 : decode cX12_canSearch 34 = .ok (.goto 4, 3) := by decide +kernel
theorem dX12_canSearch_37 : decode cX12_canSearch 37 = .ok (.iconst 0, 1) := by decide +kernel
theorem dX12_canSearch_38 : decode cX12_canSearch 38 = .ok (.ireturn, 1) := by decide +kernel
theorem dX12_allChoices_0 : decode cX12_allChoices 0 = .ok (.iconst 1, 1) := by decide +kernel
theorem dX12_allChoices_1 : decode cX12_allChoices 1 = .ok (.istore_n 1, 1) := by decide +kernel
theorem dX12_allChoices_2 : decode cX12_allChoices 2 = .ok (.iconst 0, 1) := by decide +kernel
theorem dX12_allChoices_3 : decode cX12_allChoices 3 = .ok (.istore_n 2, 1) := by decide +kernel
theorem dX12_allChoices_4 : decode cX12_allChoices 4 = .ok (.iload_n 2, 1) := by decide +kernel
theorem dX12_allChoices_5 : decode cX12_allChoices 5 = .ok (.aload_n 0, 1) := by decide +kernel
theorem dX12_allChoices_6 : decode cX12_allChoices 6 = .ok (.getfield 103, 3) := by decide +kernel
theorem dX12_allChoices_9 : decode cX12_allChoices 9 = .ok (.if_icmp .ge 18, 3) := by decide +kernel
theorem dX12_allChoices_12 : decode cX12_allChoices 12 = .ok (.iload_n 1, 1) := by decide +kernel
theorem dX12_allChoices_13 : decode cX12_allChoices 13 = .ok (.aload_n 0, 1) := by decide +kernel
theorem dX12_allChoices_14 : decode cX12_allChoices 14 = .ok (.getfield 47, 3) := by decide +kernel
theorem dX12_allChoices_17 : decode cX12_allChoices 17 = .ok (.iconst 0, 1) := by decide +kernel
theorem dX12_allChoices_18 : decode cX12_allChoices 18 = .ok (.iaload, 1) := by decide +kernel
theorem dX12_allChoices_19 : decode cX12_allChoices 19 = .ok (.imul, 1) := by decide +kernel
theorem dX12_allChoices_20 : decode cX12_allChoices 20 = .ok (.istore_n 1, 1) := by decide +kernel
theorem dX12_allChoices_21 : decode cX12_allChoices 21 = .ok (.iinc 2 1, 3) := by decide +kernel
theorem dX12_allChoices_24 : decode cX12_allChoices 24 = .ok (.goto (-20), 3) := by decide +kernel
theorem dX12_allChoices_27 : decode cX12_allChoices 27 = .ok (.iload_n 1, 1) := by decide +kernel
theorem dX12_allChoices_28 : decode cX12_allChoices 28 = .ok (.ireturn, 1) := by decide +kernel
theorem dX12_triesChoice_0 : decode cX12_triesChoice 0 = .ok (.aload_n 0, 1) := by decide +kernel
theorem dX12_triesChoice_1 : decode cX12_triesChoice 1 = .ok (.invokevirtual 440, 3) := by decide +kernel
theorem dX12_triesChoice_4 : decode cX12_triesChoice 4 = .ok (.iload_n 1, 1) := by decide +kernel
theorem dX12_triesChoice_5 : decode cX12_triesChoice 5 = .ok (.istore_n 2, 1) := by decide +kernel
theorem dX12_triesChoice_6 : decode cX12_triesChoice 6 = .ok (.aload_n 0, 1) := by decide +kernel
theorem dX12_triesChoice_7 : decode cX12_triesChoice 7 = .ok (.getfield 103, 3) := by decide +kernel
theorem dX12_triesChoice_10 : decode cX12_triesChoice 10 = .ok (.iconst 1, 1) := by decide +kernel
theorem dX12_triesChoice_11 : decode cX12_triesChoice 11 = .ok (.isub, 1) := by decide +kernel
theorem dX12_triesChoice_12 : decode cX12_triesChoice 12 = .ok (.istore_n 3, 1) := by decide +kernel
theorem dX12_triesChoice_13 : decode cX12_triesChoice 13 = .ok (.iload_n 3, 1) := by decide +kernel
theorem dX12_triesChoice_14 : decode cX12_triesChoice 14 = .ok (.ifCond .lt 36, 3) := by decide +kernel
theorem dX12_triesChoice_17 : decode cX12_triesChoice 17 = .ok (.aload_n 0, 1) := by decide +kernel
theorem dX12_triesChoice_18 : decode cX12_triesChoice 18 = .ok (.aload_n 0, 1) := by decide +kernel
theorem dX12_triesChoice_19 : decode cX12_triesChoice 19 = .ok (.getfield 100, 3) := by decide +kernel
theorem dX12_triesChoice_22 : decode cX12_triesChoice 22 = .ok (.iload_n 3, 1) := by decide +kernel
theorem dX12_triesChoice_23 : decode cX12_triesChoice 23 = .ok (.iaload, 1) := by decide +kernel
theorem dX12_triesChoice_24 : decode cX12_triesChoice 24 = .ok (.iload_n 2, 1) := by decide +kernel
theorem dX12_triesChoice_25 : decode cX12_triesChoice 25 = .ok (.aload_n 0, 1) := by decide +kernel
theorem dX12_triesChoice_26 : decode cX12_triesChoice 26 = .ok (.getfield 47, 3) := by decide +kernel
theorem dX12_triesChoice_29 : decode cX12_triesChoice 29 = .ok (.iconst 0, 1) := by decide +kernel
theorem dX12_triesChoice_30 : decode cX12_triesChoice 30 = .ok (.iaload, 1) := by decide +kernel
theorem dX12_triesChoice_31 : decode cX12_triesChoice 31 = .ok (.irem, 1) := by decide +kernel
theorem dX12_triesChoice_32 : decode cX12_triesChoice 32 = .ok (.invokevirtual 462, 3) := by decide +kernel
theorem dX12_triesChoice_35 : decode cX12_triesChoice 35 = .ok (.iload_n 2, 1) := by decide +kernel
theorem dX12_triesChoice_36 : decode cX12_triesChoice 36 = .ok (.aload_n 0, 1) := by decide +kernel
theorem dX12_triesChoice_37 : decode cX12_triesChoice 37 = .ok (.getfield 47, 3) := by decide +kernel
theorem dX12_triesChoice_40 : decode cX12_triesChoice 40 = .ok (.iconst 0, 1) := by decide +kernel
theorem dX12_triesChoice_41 : decode cX12_triesChoice 41 = .ok (.iaload, 1) := by decide +kernel
theorem dX12_triesChoice_42 : decode cX12_triesChoice 42 = .ok (.idiv, 1) := by decide +kernel
theorem dX12_triesChoice_43 : decode cX12_triesChoice 43 = .ok (.istore_n 2, 1) := by decide +kernel
theorem dX12_triesChoice_44 : decode cX12_triesChoice 44 = .ok (.iinc 3 (-1), 3) := by decide +kernel
theorem dX12_triesChoice_47 : decode cX12_triesChoice 47 = .ok (.goto (-34), 3) := by decide +kernel
theorem dX12_triesChoice_50 : decode cX12_triesChoice 50 = .ok (.return_, 1) := by decide +kernel
theorem dX12_cheapestChoice_0 : decode cX12_cheapestChoice 0 = .ok (.iconst (-1), 1) := by decide +kernel
theorem dX12_cheapestChoice_1 : decode cX12_cheapestChoice 1 = .ok (.istore_n 1, 1) := by decide +kernel
theorem dX12_cheapestChoice_2 : decode cX12_cheapestChoice 2 = .ok (.iconst 0, 1) := by decide +kernel
theorem dX12_cheapestChoice_3 : decode cX12_cheapestChoice 3 = .ok (.istore_n 2, 1) := by decide +kernel
theorem dX12_cheapestChoice_4 : decode cX12_cheapestChoice 4 = .ok (.aload_n 0, 1) := by decide +kernel
theorem dX12_cheapestChoice_5 : decode cX12_cheapestChoice 5 = .ok (.invokevirtual 465, 3) := by decide +kernel
theorem dX12_cheapestChoice_8 : decode cX12_cheapestChoice 8 = .ok (.istore_n 3, 1) := by decide +kernel
theorem dX12_cheapestChoice_9 : decode cX12_cheapestChoice 9 = .ok (.iconst 0, 1) := by decide +kernel
theorem dX12_cheapestChoice_10 : decode cX12_cheapestChoice 10 = .ok (.istore 4, 2) := by decide +kernel
theorem dX12_cheapestChoice_12 : decode cX12_cheapestChoice 12 = .ok (.iload 4, 2) := by decide +kernel
theorem dX12_cheapestChoice_14 : decode cX12_cheapestChoice 14 = .ok (.iload_n 3, 1) := by decide +kernel
theorem dX12_cheapestChoice_15 : decode cX12_cheapestChoice 15 = .ok (.if_icmp .ge 48, 3) := by decide +kernel
theorem dX12_cheapestChoice_18 : decode cX12_cheapestChoice 18 = .ok (.aload_n 0, 1) := by decide +kernel
theorem dX12_cheapestChoice_19 : decode cX12_cheapestChoice 19 = .ok (.iload 4, 2) := by decide +kernel
theorem dX12_cheapestChoice_21 : decode cX12_cheapestChoice 21 = .ok (.invokevirtual 468, 3) := by decide +kernel
theorem dX12_cheapestChoice_24 : decode cX12_cheapestChoice 24 = .ok (.aload_n 0, 1) := by decide +kernel
theorem dX12_cheapestChoice_25 : decode cX12_cheapestChoice 25 = .ok (.invokevirtual 449, 3) := by decide +kernel
theorem dX12_cheapestChoice_28 : decode cX12_cheapestChoice 28 = .ok (.istore 5, 2) := by decide +kernel
theorem dX12_cheapestChoice_30 : decode cX12_cheapestChoice 30 = .ok (.iload_n 1, 1) := by decide +kernel
theorem dX12_cheapestChoice_31 : decode cX12_cheapestChoice 31 = .ok (.iconst (-1), 1) := by decide +kernel
theorem dX12_cheapestChoice_32 : decode cX12_cheapestChoice 32 = .ok (.if_icmp .eq 9, 3) := by decide +kernel
theorem dX12_cheapestChoice_35 : decode cX12_cheapestChoice 35 = .ok (.iload 5, 2) := by decide +kernel
theorem dX12_cheapestChoice_37 : decode cX12_cheapestChoice 37 = .ok (.iload_n 2, 1) := by decide +kernel
theorem dX12_cheapestChoice_38 : decode cX12_cheapestChoice 38 = .ok (.if_icmp .ge 19, 3) := by decide +kernel
theorem dX12_cheapestChoice_41 : decode cX12_cheapestChoice 41 = .ok (.aload_n 0, 1) := by decide +kernel
theorem dX12_cheapestChoice_42 : decode cX12_cheapestChoice 42 = .ok (.invokevirtual 443, 3) := by decide +kernel
theorem dX12_cheapestChoice_45 : decode cX12_cheapestChoice 45 = .ok (.ifCond .ne 6, 3) := by decide +kernel
theorem dX12_cheapestChoice_48 : decode cX12_cheapestChoice 48 = .ok (.goto 9, 3) := by decide +kernel
theorem dX12_cheapestChoice_51 : decode cX12_cheapestChoice 51 = .ok (.iload 4, 2) := by decide +kernel
theorem dX12_cheapestChoice_53 : decode cX12_cheapestChoice 53 = .ok (.istore_n 1, 1) := by decide +kernel
theorem dX12_cheapestChoice_54 : decode cX12_cheapestChoice 54 = .ok (.iload 5, 2) := by decide +kernel
theorem dX12_cheapestChoice_56 : decode cX12_cheapestChoice 56 = .ok (.istore_n 2, 1) := by decide +kernel
theorem dX12_cheapestChoice_57 : decode cX12_cheapestChoice 57 = .ok (.iinc 4 1, 3) := by decide +kernel
theorem dX12_cheapestChoice_60 : decode cX12_cheapestChoice 60 = .ok (.goto (-48), 3) := by decide +kernel
theorem dX12_cheapestChoice_63 : decode cX12_cheapestChoice 63 = .ok (.iload_n 1, 1) := by decide +kernel
theorem dX12_cheapestChoice_64 : decode cX12_cheapestChoice 64 = .ok (.ireturn, 1) := by decide +kernel
theorem dX12_cheapest_0 : decode cX12_cheapest 0 = .ok (.aload_n 0, 1) := by decide +kernel
theorem dX12_cheapest_1 : decode cX12_cheapest 1 = .ok (.invokevirtual 471, 3) := by decide +kernel
theorem dX12_cheapest_4 : decode cX12_cheapest 4 = .ok (.ifCond .eq 16, 3) := by decide +kernel
theorem dX12_cheapest_7 : decode cX12_cheapest 7 = .ok (.iload_n 1, 1) := by decide +kernel
theorem dX12_cheapest_8 : decode cX12_cheapest 8 = .ok (.iconst (-1), 1) := by decide +kernel
theorem dX12_cheapest_9 : decode cX12_cheapest 9 = .ok (.if_icmp .eq 13, 3) := by decide +kernel
theorem dX12_cheapest_12 : decode cX12_cheapest 12 = .ok (.aload_n 0, 1) := by decide +kernel
theorem dX12_cheapest_13 : decode cX12_cheapest 13 = .ok (.iload_n 1, 1) := by decide +kernel
theorem dX12_cheapest_14 : decode cX12_cheapest 14 = .ok (.invokevirtual 373, 3) := by decide +kernel
theorem dX12_cheapest_17 : decode cX12_cheapest 17 = .ok (.ifCond .ne 5, 3) := by decide +kernel
theorem dX12_cheapest_20 : decode cX12_cheapest 20 = .ok (.iconst (-1), 1) := by decide +kernel
theorem dX12_cheapest_21 : decode cX12_cheapest 21 = .ok (.ireturn, 1) := by decide +kernel
theorem dX12_cheapest_22 : decode cX12_cheapest 22 = .ok (.aload_n 0, 1) := by decide +kernel
theorem dX12_cheapest_23 : decode cX12_cheapest 23 = .ok (.invokevirtual 474, 3) := by decide +kernel
theorem dX12_cheapest_26 : decode cX12_cheapest 26 = .ok (.istore_n 2, 1) := by decide +kernel
theorem dX12_cheapest_27 : decode cX12_cheapest 27 = .ok (.iload_n 2, 1) := by decide +kernel
theorem dX12_cheapest_28 : decode cX12_cheapest 28 = .ok (.iconst (-1), 1) := by decide +kernel
theorem dX12_cheapest_29 : decode cX12_cheapest 29 = .ok (.if_icmp .ne 5, 3) := by decide +kernel
theorem dX12_cheapest_32 : decode cX12_cheapest 32 = .ok (.iconst (-1), 1) := by decide +kernel
theorem dX12_cheapest_33 : decode cX12_cheapest 33 = .ok (.ireturn, 1) := by decide +kernel
theorem dX12_cheapest_34 : decode cX12_cheapest 34 = .ok (.aload_n 0, 1) := by decide +kernel
theorem dX12_cheapest_35 : decode cX12_cheapest 35 = .ok (.iload_n 2, 1) := by decide +kernel
theorem dX12_cheapest_36 : decode cX12_cheapest 36 = .ok (.invokevirtual 468, 3) := by decide +kernel
theorem dX12_cheapest_39 : decode cX12_cheapest 39 = .ok (.iload_n 1, 1) := by decide +kernel
theorem dX12_cheapest_40 : decode cX12_cheapest 40 = .ok (.iconst (-1), 1) := by decide +kernel
theorem dX12_cheapest_41 : decode cX12_cheapest 41 = .ok (.if_icmp .ne 10, 3) := by decide +kernel
theorem dX12_cheapest_44 : decode cX12_cheapest 44 = .ok (.aload_n 0, 1) := by decide +kernel
theorem dX12_cheapest_45 : decode cX12_cheapest 45 = .ok (.invokevirtual 449, 3) := by decide +kernel
theorem dX12_cheapest_48 : decode cX12_cheapest 48 = .ok (.goto 9, 3) := by decide +kernel
theorem dX12_cheapest_51 : decode cX12_cheapest 51 = .ok (.aload_n 0, 1) := by decide +kernel
theorem dX12_cheapest_52 : decode cX12_cheapest 52 = .ok (.getfield 132, 3) := by decide +kernel
theorem dX12_cheapest_55 : decode cX12_cheapest 55 = .ok (.iload_n 1, 1) := by decide +kernel
theorem dX12_cheapest_56 : decode cX12_cheapest 56 = .ok (.iaload, 1) := by decide +kernel
theorem dX12_cheapest_57 : decode cX12_cheapest 57 = .ok (.ireturn, 1) := by decide +kernel
theorem dX12_passing_0 : decode cX12_passing 0 = .ok (.aload_n 0, 1) := by decide +kernel
theorem dX12_passing_1 : decode cX12_passing 1 = .ok (.invokevirtual 358, 3) := by decide +kernel
theorem dX12_passing_4 : decode cX12_passing 4 = .ok (.aload_n 0, 1) := by decide +kernel
theorem dX12_passing_5 : decode cX12_passing 5 = .ok (.getfield 62, 3) := by decide +kernel
theorem dX12_passing_8 : decode cX12_passing 8 = .ok (.iconst 0, 1) := by decide +kernel
theorem dX12_passing_9 : decode cX12_passing 9 = .ok (.iaload, 1) := by decide +kernel
theorem dX12_passing_10 : decode cX12_passing 10 = .ok (.ifCond .eq 11, 3) := by decide +kernel
theorem dX12_passing_13 : decode cX12_passing 13 = .ok (.aload_n 0, 1) := by decide +kernel
theorem dX12_passing_14 : decode cX12_passing 14 = .ok (.getfield 103, 3) := by decide +kernel
theorem dX12_passing_17 : decode cX12_passing 17 = .ok (.iconst 5, 1) := by decide +kernel
theorem dX12_passing_18 : decode cX12_passing 18 = .ok (.if_icmp .le 5, 3) := by decide +kernel
theorem dX12_passing_21 : decode cX12_passing 21 = .ok (.iconst (-1), 1) := by decide +kernel
theorem dX12_passing_22 : decode cX12_passing 22 = .ok (.ireturn, 1) := by decide +kernel
theorem dX12_passing_23 : decode cX12_passing 23 = .ok (.aload_n 0, 1) := by decide +kernel
theorem dX12_passing_24 : decode cX12_passing 24 = .ok (.getfield 128, 3) := by decide +kernel
theorem dX12_passing_27 : decode cX12_passing 27 = .ok (.ifCond .ne 5, 3) := by decide +kernel
theorem dX12_passing_30 : decode cX12_passing 30 = .ok (.iconst 0, 1) := by decide +kernel
theorem dX12_passing_31 : decode cX12_passing 31 = .ok (.ireturn, 1) := by decide +kernel
theorem dX12_passing_32 : decode cX12_passing 32 = .ok (.aload_n 0, 1) := by decide +kernel
theorem dX12_passing_33 : decode cX12_passing 33 = .ok (.iconst (-1), 1) := by decide +kernel
theorem dX12_passing_34 : decode cX12_passing 34 = .ok (.putfield 112, 3) := by decide +kernel
theorem dX12_passing_37 : decode cX12_passing 37 = .ok (.iconst 0, 1) := by decide +kernel
theorem dX12_passing_38 : decode cX12_passing 38 = .ok (.istore_n 1, 1) := by decide +kernel
theorem dX12_passing_39 : decode cX12_passing 39 = .ok (.aload_n 0, 1) := by decide +kernel
theorem dX12_passing_40 : decode cX12_passing 40 = .ok (.invokevirtual 465, 3) := by decide +kernel
theorem dX12_passing_43 : decode cX12_passing 43 = .ok (.istore_n 2, 1) := by decide +kernel
theorem dX12_passing_44 : decode cX12_passing 44 = .ok (.iconst 0, 1) := by decide +kernel
theorem dX12_passing_45 : decode cX12_passing 45 = .ok (.istore_n 3, 1) := by decide +kernel
theorem dX12_passing_46 : decode cX12_passing 46 = .ok (.iload_n 3, 1) := by decide +kernel
theorem dX12_passing_47 : decode cX12_passing 47 = .ok (.iload_n 2, 1) := by decide +kernel
theorem dX12_passing_48 : decode cX12_passing 48 = .ok (.if_icmp .ge 29, 3) := by decide +kernel
theorem dX12_passing_51 : decode cX12_passing 51 = .ok (.aload_n 0, 1) := by decide +kernel
theorem dX12_passing_52 : decode cX12_passing 52 = .ok (.iload_n 3, 1) := by decide +kernel
theorem dX12_passing_53 : decode cX12_passing 53 = .ok (.invokevirtual 468, 3) := by decide +kernel
theorem dX12_passing_56 : decode cX12_passing 56 = .ok (.iload_n 1, 1) := by decide +kernel
theorem dX12_passing_57 : decode cX12_passing 57 = .ok (.aload_n 0, 1) := by decide +kernel
theorem dX12_passing_58 : decode cX12_passing 58 = .ok (.invokevirtual 443, 3) := by decide +kernel
theorem dX12_passing_61 : decode cX12_passing 61 = .ok (.ifCond .eq 7, 3) := by decide +kernel
theorem dX12_passing_64 : decode cX12_passing 64 = .ok (.iconst 1, 1) := by decide +kernel
theorem dX12_passing_65 : decode cX12_passing 65 = .ok (.goto 4, 3) := by decide +kernel
theorem dX12_passing_68 : decode cX12_passing 68 = .ok (.iconst 0, 1) := by decide +kernel
theorem dX12_passing_69 : decode cX12_passing 69 = .ok (.iadd, 1) := by decide +kernel
theorem dX12_passing_70 : decode cX12_passing 70 = .ok (.istore_n 1, 1) := by decide +kernel
theorem dX12_passing_71 : decode cX12_passing 71 = .ok (.iinc 3 1, 3) := by decide +kernel
theorem dX12_passing_74 : decode cX12_passing 74 = .ok (.goto (-28), 3) := by decide +kernel
theorem dX12_passing_77 : decode cX12_passing 77 = .ok (.iload_n 1, 1) := by decide +kernel
theorem dX12_passing_78 : decode cX12_passing 78 = .ok (.ireturn, 1) := by decide +kernel
theorem dX12_keepsTried_0 : decode cX12_keepsTried 0 = .ok (.iconst 0, 1) := by decide +kernel
theorem dX12_keepsTried_1 : decode cX12_keepsTried 1 = .ok (.istore_n 1, 1) := by decide +kernel
theorem dX12_keepsTried_2 : decode cX12_keepsTried 2 = .ok (.iload_n 1, 1) := by decide +kernel
theorem dX12_keepsTried_3 : decode cX12_keepsTried 3 = .ok (.aload_n 0, 1) := by decide +kernel
theorem dX12_keepsTried_4 : decode cX12_keepsTried 4 = .ok (.getfield 62, 3) := by decide +kernel
theorem dX12_keepsTried_7 : decode cX12_keepsTried 7 = .ok (.iconst 0, 1) := by decide +kernel
theorem dX12_keepsTried_8 : decode cX12_keepsTried 8 = .ok (.iaload, 1) := by decide +kernel
theorem dX12_keepsTried_9 : decode cX12_keepsTried 9 = .ok (.if_icmp .ge 21, 3) := by decide +kernel
theorem dX12_keepsTried_12 : decode cX12_keepsTried 12 = .ok (.aload_n 0, 1) := by decide +kernel
theorem dX12_keepsTried_13 : decode cX12_keepsTried 13 = .ok (.getfield 144, 3) := by decide +kernel
theorem dX12_keepsTried_16 : decode cX12_keepsTried 16 = .ok (.iload_n 1, 1) := by decide +kernel
theorem dX12_keepsTried_17 : decode cX12_keepsTried 17 = .ok (.aload_n 0, 1) := by decide +kernel
theorem dX12_keepsTried_18 : decode cX12_keepsTried 18 = .ok (.getfield 132, 3) := by decide +kernel
theorem dX12_keepsTried_21 : decode cX12_keepsTried 21 = .ok (.iload_n 1, 1) := by decide +kernel
theorem dX12_keepsTried_22 : decode cX12_keepsTried 22 = .ok (.iaload, 1) := by decide +kernel
theorem dX12_keepsTried_23 : decode cX12_keepsTried 23 = .ok (.iastore, 1) := by decide +kernel
theorem dX12_keepsTried_24 : decode cX12_keepsTried 24 = .ok (.iinc 1 1, 3) := by decide +kernel
theorem dX12_keepsTried_27 : decode cX12_keepsTried 27 = .ok (.goto (-25), 3) := by decide +kernel
theorem dX12_keepsTried_30 : decode cX12_keepsTried 30 = .ok (.aload_n 0, 1) := by decide +kernel
theorem dX12_keepsTried_31 : decode cX12_keepsTried 31 = .ok (.aload_n 0, 1) := by decide +kernel
theorem dX12_keepsTried_32 : decode cX12_keepsTried 32 = .ok (.invokevirtual 449, 3) := by decide +kernel
theorem dX12_keepsTried_35 : decode cX12_keepsTried 35 = .ok (.putfield 147, 3) := by decide +kernel
theorem dX12_keepsTried_38 : decode cX12_keepsTried 38 = .ok (.return_, 1) := by decide +kernel
theorem dX12_isBetter_0 : decode cX12_isBetter 0 = .ok (.iconst 0, 1) := by decide +kernel
theorem dX12_isBetter_1 : decode cX12_isBetter 1 = .ok (.istore 4, 2) := by decide +kernel
theorem dX12_isBetter_3 : decode cX12_isBetter 3 = .ok (.iload 4, 2) := by decide +kernel
theorem dX12_isBetter_5 : decode cX12_isBetter 5 = .ok (.aload_n 0, 1) := by decide +kernel
theorem dX12_isBetter_6 : decode cX12_isBetter 6 = .ok (.getfield 62, 3) := by decide +kernel
theorem dX12_isBetter_9 : decode cX12_isBetter 9 = .ok (.iconst 0, 1) := by decide +kernel
theorem dX12_isBetter_10 : decode cX12_isBetter 10 = .ok (.iaload, 1) := by decide +kernel
theorem dX12_isBetter_11 : decode cX12_isBetter 11 = .ok (.if_icmp .ge 23, 3) := by decide +kernel
theorem dX12_isBetter_14 : decode cX12_isBetter 14 = .ok (.aload_n 0, 1) := by decide +kernel
theorem dX12_isBetter_15 : decode cX12_isBetter 15 = .ok (.getfield 132, 3) := by decide +kernel
theorem dX12_isBetter_18 : decode cX12_isBetter 18 = .ok (.iload 4, 2) := by decide +kernel
theorem dX12_isBetter_20 : decode cX12_isBetter 20 = .ok (.aload_n 0, 1) := by decide +kernel
theorem dX12_isBetter_21 : decode cX12_isBetter 21 = .ok (.getfield 144, 3) := by decide +kernel
theorem dX12_isBetter_24 : decode cX12_isBetter 24 = .ok (.iload 4, 2) := by decide +kernel
theorem dX12_isBetter_26 : decode cX12_isBetter 26 = .ok (.iaload, 1) := by decide +kernel
theorem dX12_isBetter_27 : decode cX12_isBetter 27 = .ok (.iastore, 1) := by decide +kernel
theorem dX12_isBetter_28 : decode cX12_isBetter 28 = .ok (.iinc 4 1, 3) := by decide +kernel
theorem dX12_isBetter_31 : decode cX12_isBetter 31 = .ok (.goto (-28), 3) := by decide +kernel
theorem dX12_isBetter_34 : decode cX12_isBetter 34 = .ok (.iload_n 1, 1) := by decide +kernel
theorem dX12_isBetter_35 : decode cX12_isBetter 35 = .ok (.istore 4, 2) := by decide +kernel
theorem dX12_isBetter_37 : decode cX12_isBetter 37 = .ok (.iload 4, 2) := by decide +kernel
theorem dX12_isBetter_39 : decode cX12_isBetter 39 = .ok (.iload_n 1, 1) := by decide +kernel
theorem dX12_isBetter_40 : decode cX12_isBetter 40 = .ok (.iload_n 2, 1) := by decide +kernel
theorem dX12_isBetter_41 : decode cX12_isBetter 41 = .ok (.iadd, 1) := by decide +kernel
theorem dX12_isBetter_42 : decode cX12_isBetter 42 = .ok (.if_icmp .ge 26, 3) := by decide +kernel
theorem dX12_isBetter_45 : decode cX12_isBetter 45 = .ok (.aload_n 0, 1) := by decide +kernel
theorem dX12_isBetter_46 : decode cX12_isBetter 46 = .ok (.aload_n 0, 1) := by decide +kernel
theorem dX12_isBetter_47 : decode cX12_isBetter 47 = .ok (.getfield 100, 3) := by decide +kernel
theorem dX12_isBetter_50 : decode cX12_isBetter 50 = .ok (.aload_n 0, 1) := by decide +kernel
theorem dX12_isBetter_51 : decode cX12_isBetter 51 = .ok (.getfield 156, 3) := by decide +kernel
theorem dX12_isBetter_54 : decode cX12_isBetter 54 = .ok (.iload 4, 2) := by decide +kernel
theorem dX12_isBetter_56 : decode cX12_isBetter 56 = .ok (.iaload, 1) := by decide +kernel
theorem dX12_isBetter_57 : decode cX12_isBetter 57 = .ok (.iaload, 1) := by decide +kernel
theorem dX12_isBetter_58 : decode cX12_isBetter 58 = .ok (.iload_n 3, 1) := by decide +kernel
theorem dX12_isBetter_59 : decode cX12_isBetter 59 = .ok (.invokevirtual 462, 3) := by decide +kernel
theorem dX12_isBetter_62 : decode cX12_isBetter 62 = .ok (.iinc 4 1, 3) := by decide +kernel
theorem dX12_isBetter_65 : decode cX12_isBetter 65 = .ok (.goto (-28), 3) := by decide +kernel
theorem dX12_isBetter_68 : decode cX12_isBetter 68 = .ok (.aload_n 0, 1) := by decide +kernel
theorem dX12_isBetter_69 : decode cX12_isBetter 69 = .ok (.dup, 1) := by decide +kernel
theorem dX12_isBetter_70 : decode cX12_isBetter 70 = .ok (.getfield 150, 3) := by decide +kernel
theorem dX12_isBetter_73 : decode cX12_isBetter 73 = .ok (.iconst 1, 1) := by decide +kernel
theorem dX12_isBetter_74 : decode cX12_isBetter 74 = .ok (.iadd, 1) := by decide +kernel
theorem dX12_isBetter_75 : decode cX12_isBetter 75 = .ok (.putfield 150, 3) := by decide +kernel
theorem dX12_isBetter_78 : decode cX12_isBetter 78 = .ok (.aload_n 0, 1) := by decide +kernel
theorem dX12_isBetter_79 : decode cX12_isBetter 79 = .ok (.invokevirtual 443, 3) := by decide +kernel
theorem dX12_isBetter_82 : decode cX12_isBetter 82 = .ok (.ifCond .eq 14, 3) := by decide +kernel
theorem dX12_isBetter_85 : decode cX12_isBetter 85 = .ok (.aload_n 0, 1) := by decide +kernel
theorem dX12_isBetter_86 : decode cX12_isBetter 86 = .ok (.invokevirtual 449, 3) := by decide +kernel
theorem dX12_isBetter_89 : decode cX12_isBetter 89 = .ok (.aload_n 0, 1) := by decide +kernel
theorem dX12_isBetter_90 : decode cX12_isBetter 90 = .ok (.getfield 147, 3) := by decide +kernel
theorem dX12_isBetter_93 : decode cX12_isBetter 93 = .ok (.if_icmp .lt 5, 3) := by decide +kernel
