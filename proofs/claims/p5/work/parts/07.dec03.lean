theorem dX12_isBetter_96 : decode cX12_isBetter 96 = .ok (.iconst 0, 1) := by decide +kernel
theorem dX12_isBetter_97 : decode cX12_isBetter 97 = .ok (.ireturn, 1) := by decide +kernel
theorem dX12_isBetter_98 : decode cX12_isBetter 98 = .ok (.aload_n 0, 1) := by decide +kernel
theorem dX12_isBetter_99 : decode cX12_isBetter 99 = .ok (.invokevirtual 477, 3) := by decide +kernel
theorem dX12_isBetter_102 : decode cX12_isBetter 102 = .ok (.iload_n 1, 1) := by decide +kernel
theorem dX12_isBetter_103 : decode cX12_isBetter 103 = .ok (.istore 4, 2) := by decide +kernel
theorem dX12_isBetter_105 : decode cX12_isBetter 105 = .ok (.iload 4, 2) := by decide +kernel
theorem dX12_isBetter_107 : decode cX12_isBetter 107 = .ok (.iload_n 1, 1) := by decide +kernel
theorem dX12_isBetter_108 : decode cX12_isBetter 108 = .ok (.iload_n 2, 1) := by decide +kernel
theorem dX12_isBetter_109 : decode cX12_isBetter 109 = .ok (.iadd, 1) := by decide +kernel
theorem dX12_isBetter_110 : decode cX12_isBetter 110 = .ok (.if_icmp .ge 22, 3) := by decide +kernel
theorem dX12_isBetter_113 : decode cX12_isBetter 113 = .ok (.aload_n 0, 1) := by decide +kernel
theorem dX12_isBetter_114 : decode cX12_isBetter 114 = .ok (.getfield 153, 3) := by decide +kernel
theorem dX12_isBetter_117 : decode cX12_isBetter 117 = .ok (.aload_n 0, 1) := by decide +kernel
theorem dX12_isBetter_118 : decode cX12_isBetter 118 = .ok (.getfield 156, 3) := by decide +kernel
theorem dX12_isBetter_121 : decode cX12_isBetter 121 = .ok (.iload 4, 2) := by decide +kernel
theorem dX12_isBetter_123 : decode cX12_isBetter 123 = .ok (.iaload, 1) := by decide +kernel
theorem dX12_isBetter_124 : decode cX12_isBetter 124 = .ok (.iconst 1, 1) := by decide +kernel
theorem dX12_isBetter_125 : decode cX12_isBetter 125 = .ok (.bastore, 1) := by decide +kernel
theorem dX12_isBetter_126 : decode cX12_isBetter 126 = .ok (.iinc 4 1, 3) := by decide +kernel
theorem dX12_isBetter_129 : decode cX12_isBetter 129 = .ok (.goto (-24), 3) := by decide +kernel
theorem dX12_isBetter_132 : decode cX12_isBetter 132 = .ok (.iconst 1, 1) := by decide +kernel
theorem dX12_isBetter_133 : decode cX12_isBetter 133 = .ok (.ireturn, 1) := by decide +kernel
theorem dX12_halvesBy_0 : decode cX12_halvesBy 0 = .ok (.iconst 0, 1) := by decide +kernel
theorem dX12_halvesBy_1 : decode cX12_halvesBy 1 = .ok (.istore_n 2, 1) := by decide +kernel
theorem dX12_halvesBy_2 : decode cX12_halvesBy 2 = .ok (.iconst 0, 1) := by decide +kernel
theorem dX12_halvesBy_3 : decode cX12_halvesBy 3 = .ok (.istore_n 3, 1) := by decide +kernel
theorem dX12_halvesBy_4 : decode cX12_halvesBy 4 = .ok (.iload_n 3, 1) := by decide +kernel
theorem dX12_halvesBy_5 : decode cX12_halvesBy 5 = .ok (.aload_n 0, 1) := by decide +kernel
theorem dX12_halvesBy_6 : decode cX12_halvesBy 6 = .ok (.getfield 103, 3) := by decide +kernel
theorem dX12_halvesBy_9 : decode cX12_halvesBy 9 = .ok (.if_icmp .ge 31, 3) := by decide +kernel
theorem dX12_halvesBy_12 : decode cX12_halvesBy 12 = .ok (.aload_n 0, 1) := by decide +kernel
theorem dX12_halvesBy_13 : decode cX12_halvesBy 13 = .ok (.getfield 153, 3) := by decide +kernel
theorem dX12_halvesBy_16 : decode cX12_halvesBy 16 = .ok (.iload_n 3, 1) := by decide +kernel
theorem dX12_halvesBy_17 : decode cX12_halvesBy 17 = .ok (.baload, 1) := by decide +kernel
theorem dX12_halvesBy_18 : decode cX12_halvesBy 18 = .ok (.ifCond .eq 6, 3) := by decide +kernel
theorem dX12_halvesBy_21 : decode cX12_halvesBy 21 = .ok (.goto 13, 3) := by decide +kernel
theorem dX12_halvesBy_24 : decode cX12_halvesBy 24 = .ok (.aload_n 0, 1) := by decide +kernel
theorem dX12_halvesBy_25 : decode cX12_halvesBy 25 = .ok (.getfield 156, 3) := by decide +kernel
theorem dX12_halvesBy_28 : decode cX12_halvesBy 28 = .ok (.iload_n 2, 1) := by decide +kernel
theorem dX12_halvesBy_29 : decode cX12_halvesBy 29 = .ok (.iload_n 3, 1) := by decide +kernel
theorem dX12_halvesBy_30 : decode cX12_halvesBy 30 = .ok (.iastore, 1) := by decide +kernel
theorem dX12_halvesBy_31 : decode cX12_halvesBy 31 = .ok (.iinc 2 1, 3) := by decide +kernel
theorem dX12_halvesBy_34 : decode cX12_halvesBy 34 = .ok (.iinc 3 1, 3) := by decide +kernel
theorem dX12_halvesBy_37 : decode cX12_halvesBy 37 = .ok (.goto (-33), 3) := by decide +kernel
theorem dX12_halvesBy_40 : decode cX12_halvesBy 40 = .ok (.iconst 0, 1) := by decide +kernel
theorem dX12_halvesBy_41 : decode cX12_halvesBy 41 = .ok (.istore_n 3, 1) := by decide +kernel
theorem dX12_halvesBy_42 : decode cX12_halvesBy 42 = .ok (.iconst 0, 1) := by decide +kernel
theorem dX12_halvesBy_43 : decode cX12_halvesBy 43 = .ok (.istore 4, 2) := by decide +kernel
theorem dX12_halvesBy_45 : decode cX12_halvesBy 45 = .ok (.iload_n 2, 1) := by decide +kernel
theorem dX12_halvesBy_46 : decode cX12_halvesBy 46 = .ok (.ifCond .le 20, 3) := by decide +kernel
theorem dX12_halvesBy_49 : decode cX12_halvesBy 49 = .ok (.aload_n 0, 1) := by decide +kernel
theorem dX12_halvesBy_50 : decode cX12_halvesBy 50 = .ok (.getfield 159, 3) := by decide +kernel
theorem dX12_halvesBy_53 : decode cX12_halvesBy 53 = .ok (.iconst 0, 1) := by decide +kernel
theorem dX12_halvesBy_54 : decode cX12_halvesBy 54 = .ok (.iconst 0, 1) := by decide +kernel
theorem dX12_halvesBy_55 : decode cX12_halvesBy 55 = .ok (.iastore, 1) := by decide +kernel
theorem dX12_halvesBy_56 : decode cX12_halvesBy 56 = .ok (.aload_n 0, 1) := by decide +kernel
theorem dX12_halvesBy_57 : decode cX12_halvesBy 57 = .ok (.getfield 162, 3) := by decide +kernel
theorem dX12_halvesBy_60 : decode cX12_halvesBy 60 = .ok (.iconst 0, 1) := by decide +kernel
theorem dX12_halvesBy_61 : decode cX12_halvesBy 61 = .ok (.iload_n 2, 1) := by decide +kernel
theorem dX12_halvesBy_62 : decode cX12_halvesBy 62 = .ok (.iastore, 1) := by decide +kernel
theorem dX12_halvesBy_63 : decode cX12_halvesBy 63 = .ok (.iconst 1, 1) := by decide +kernel
theorem dX12_halvesBy_64 : decode cX12_halvesBy 64 = .ok (.istore 4, 2) := by decide +kernel
theorem dX12_halvesBy_66 : decode cX12_halvesBy 66 = .ok (.iload_n 3, 1) := by decide +kernel
theorem dX12_halvesBy_67 : decode cX12_halvesBy 67 = .ok (.iload 4, 2) := by decide +kernel
theorem dX12_halvesBy_69 : decode cX12_halvesBy 69 = .ok (.if_icmp .ge 101, 3) := by decide +kernel
theorem dX12_halvesBy_72 : decode cX12_halvesBy 72 = .ok (.aload_n 0, 1) := by decide +kernel
theorem dX12_halvesBy_73 : decode cX12_halvesBy 73 = .ok (.getfield 159, 3) := by decide +kernel
theorem dX12_halvesBy_76 : decode cX12_halvesBy 76 = .ok (.iload_n 3, 1) := by decide +kernel
theorem dX12_halvesBy_77 : decode cX12_halvesBy 77 = .ok (.iaload, 1) := by decide +kernel
theorem dX12_halvesBy_78 : decode cX12_halvesBy 78 = .ok (.istore 5, 2) := by decide +kernel
theorem dX12_halvesBy_80 : decode cX12_halvesBy 80 = .ok (.aload_n 0, 1) := by decide +kernel
theorem dX12_halvesBy_81 : decode cX12_halvesBy 81 = .ok (.getfield 162, 3) := by decide +kernel
theorem dX12_halvesBy_84 : decode cX12_halvesBy 84 = .ok (.iload_n 3, 1) := by decide +kernel
theorem dX12_halvesBy_85 : decode cX12_halvesBy 85 = .ok (.iaload, 1) := by decide +kernel
theorem dX12_halvesBy_86 : decode cX12_halvesBy 86 = .ok (.istore 6, 2) := by decide +kernel
theorem dX12_halvesBy_88 : decode cX12_halvesBy 88 = .ok (.iinc 3 1, 3) := by decide +kernel
theorem dX12_halvesBy_91 : decode cX12_halvesBy 91 = .ok (.aload_n 0, 1) := by decide +kernel
theorem dX12_halvesBy_92 : decode cX12_halvesBy 92 = .ok (.iload 5, 2) := by decide +kernel
theorem dX12_halvesBy_94 : decode cX12_halvesBy 94 = .ok (.iload 6, 2) := by decide +kernel
theorem dX12_halvesBy_96 : decode cX12_halvesBy 96 = .ok (.iload_n 1, 1) := by decide +kernel
theorem dX12_halvesBy_97 : decode cX12_halvesBy 97 = .ok (.invokevirtual 480, 3) := by decide +kernel
theorem dX12_halvesBy_100 : decode cX12_halvesBy 100 = .ok (.ifCond .ne (-34), 3) := by decide +kernel
theorem dX12_halvesBy_103 : decode cX12_halvesBy 103 = .ok (.iload 6, 2) := by decide +kernel
theorem dX12_halvesBy_105 : decode cX12_halvesBy 105 = .ok (.iconst 2, 1) := by decide +kernel
theorem dX12_halvesBy_106 : decode cX12_halvesBy 106 = .ok (.if_icmp .ge 6, 3) := by decide +kernel
theorem dX12_halvesBy_109 : decode cX12_halvesBy 109 = .ok (.goto (-43), 3) := by decide +kernel
theorem dX12_halvesBy_112 : decode cX12_halvesBy 112 = .ok (.aload_n 0, 1) := by decide +kernel
theorem dX12_halvesBy_113 : decode cX12_halvesBy 113 = .ok (.getfield 159, 3) := by decide +kernel
theorem dX12_halvesBy_116 : decode cX12_halvesBy 116 = .ok (.iload 4, 2) := by decide +kernel
theorem dX12_halvesBy_118 : decode cX12_halvesBy 118 = .ok (.iload 5, 2) := by decide +kernel
theorem dX12_halvesBy_120 : decode cX12_halvesBy 120 = .ok (.iastore, 1) := by decide +kernel
theorem dX12_halvesBy_121 : decode cX12_halvesBy 121 = .ok (.aload_n 0, 1) := by decide +kernel
theorem dX12_halvesBy_122 : decode cX12_halvesBy 122 = .ok (.getfield 162, 3) := by decide +kernel
theorem dX12_halvesBy_125 : decode cX12_halvesBy 125 = .ok (.iload 4, 2) := by decide +kernel
theorem dX12_halvesBy_127 : decode cX12_halvesBy 127 = .ok (.iload 6, 2) := by decide +kernel
theorem dX12_halvesBy_129 : decode cX12_halvesBy 129 = .ok (.iconst 2, 1) := by decide +kernel
theorem dX12_halvesBy_130 : decode cX12_halvesBy 130 = .ok (.idiv, 1) := by decide +kernel
theorem dX12_halvesBy_131 : decode cX12_halvesBy 131 = .ok (.iastore, 1) := by decide +kernel
theorem dX12_halvesBy_132 : decode cX12_halvesBy 132 = .ok (.aload_n 0, 1) := by decide +kernel
theorem dX12_halvesBy_133 : decode cX12_halvesBy 133 = .ok (.getfield 159, 3) := by decide +kernel
theorem dX12_halvesBy_136 : decode cX12_halvesBy 136 = .ok (.iload 4, 2) := by decide +kernel
theorem dX12_halvesBy_138 : decode cX12_halvesBy 138 = .ok (.iconst 1, 1) := by decide +kernel
theorem dX12_halvesBy_139 : decode cX12_halvesBy 139 = .ok (.iadd, 1) := by decide +kernel
theorem dX12_halvesBy_140 : decode cX12_halvesBy 140 = .ok (.iload 5, 2) := by decide +kernel
theorem dX12_halvesBy_142 : decode cX12_halvesBy 142 = .ok (.iload 6, 2) := by decide +kernel
theorem dX12_halvesBy_144 : decode cX12_halvesBy 144 = .ok (.iconst 2, 1) := by decide +kernel
theorem dX12_halvesBy_145 : decode cX12_halvesBy 145 = .ok (.idiv, 1) := by decide +kernel
theorem dX12_halvesBy_146 : decode cX12_halvesBy 146 = .ok (.iadd, 1) := by decide +kernel
theorem dX12_halvesBy_147 : decode cX12_halvesBy 147 = .ok (.iastore, 1) := by decide +kernel
theorem dX12_halvesBy_148 : decode cX12_halvesBy 148 = .ok (.aload_n 0, 1) := by decide +kernel
theorem dX12_halvesBy_149 : decode cX12_halvesBy 149 = .ok (.getfield 162, 3) := by decide +kernel
theorem dX12_halvesBy_152 : decode cX12_halvesBy 152 = .ok (.iload 4, 2) := by decide +kernel
theorem dX12_halvesBy_154 : decode cX12_halvesBy 154 = .ok (.iconst 1, 1) := by decide +kernel
theorem dX12_halvesBy_155 : decode cX12_halvesBy 155 = .ok (.iadd, 1) := by decide +kernel
theorem dX12_halvesBy_156 : decode cX12_halvesBy 156 = .ok (.iload 6, 2) := by decide +kernel
theorem dX12_halvesBy_158 : decode cX12_halvesBy 158 = .ok (.iload 6, 2) := by decide +kernel
theorem dX12_halvesBy_160 : decode cX12_halvesBy 160 = .ok (.iconst 2, 1) := by decide +kernel
theorem dX12_halvesBy_161 : decode cX12_halvesBy 161 = .ok (.idiv, 1) := by decide +kernel
theorem dX12_halvesBy_162 : decode cX12_halvesBy 162 = .ok (.isub, 1) := by decide +kernel
theorem dX12_halvesBy_163 : decode cX12_halvesBy 163 = .ok (.iastore, 1) := by decide +kernel
theorem dX12_halvesBy_164 : decode cX12_halvesBy 164 = .ok (.iinc 4 2, 3) := by decide +kernel
theorem dX12_halvesBy_167 : decode cX12_halvesBy 167 = .ok (.goto (-101), 3) := by decide +kernel
theorem dX12_halvesBy_170 : decode cX12_halvesBy 170 = .ok (.return_, 1) := by decide +kernel
theorem dX12_halve_0 : decode cX12_halve 0 = .ok (.aload_n 0, 1) := by decide +kernel
theorem dX12_halve_1 : decode cX12_halve 1 = .ok (.invokevirtual 358, 3) := by decide +kernel
theorem dX12_halve_4 : decode cX12_halve 4 = .ok (.aload_n 0, 1) := by decide +kernel
theorem dX12_halve_5 : decode cX12_halve 5 = .ok (.iconst (-1), 1) := by decide +kernel
theorem dX12_halve_6 : decode cX12_halve 6 = .ok (.putfield 112, 3) := by decide +kernel
theorem dX12_halve_9 : decode cX12_halve 9 = .ok (.aload_n 0, 1) := by decide +kernel
theorem dX12_halve_10 : decode cX12_halve 10 = .ok (.invokevirtual 446, 3) := by decide +kernel
theorem dX12_halve_13 : decode cX12_halve 13 = .ok (.ifCond .ne 5, 3) := by decide +kernel
theorem dX12_halve_16 : decode cX12_halve 16 = .ok (.iconst 0, 1) := by decide +kernel
theorem dX12_halve_17 : decode cX12_halve 17 = .ok (.ireturn, 1) := by decide +kernel
theorem dX12_halve_18 : decode cX12_halve 18 = .ok (.aload_n 0, 1) := by decide +kernel
theorem dX12_halve_19 : decode cX12_halve 19 = .ok (.invokevirtual 459, 3) := by decide +kernel
theorem dX12_halve_22 : decode cX12_halve 22 = .ok (.istore_n 1, 1) := by decide +kernel
theorem dX12_halve_23 : decode cX12_halve 23 = .ok (.aload_n 0, 1) := by decide +kernel
theorem dX12_halve_24 : decode cX12_halve 24 = .ok (.invokevirtual 440, 3) := by decide +kernel
theorem dX12_halve_27 : decode cX12_halve 27 = .ok (.iconst 0, 1) := by decide +kernel
theorem dX12_halve_28 : decode cX12_halve 28 = .ok (.istore_n 2, 1) := by decide +kernel
theorem dX12_halve_29 : decode cX12_halve 29 = .ok (.iload_n 2, 1) := by decide +kernel
theorem dX12_halve_30 : decode cX12_halve 30 = .ok (.aload_n 0, 1) := by decide +kernel
theorem dX12_halve_31 : decode cX12_halve 31 = .ok (.getfield 103, 3) := by decide +kernel
theorem dX12_halve_34 : decode cX12_halve 34 = .ok (.if_icmp .ge 27, 3) := by decide +kernel
theorem dX12_halve_37 : decode cX12_halve 37 = .ok (.aload_n 0, 1) := by decide +kernel
theorem dX12_halve_38 : decode cX12_halve 38 = .ok (.aload_n 0, 1) := by decide +kernel
theorem dX12_halve_39 : decode cX12_halve 39 = .ok (.getfield 100, 3) := by decide +kernel
theorem dX12_halve_42 : decode cX12_halve 42 = .ok (.iload_n 2, 1) := by decide +kernel
theorem dX12_halve_43 : decode cX12_halve 43 = .ok (.iaload, 1) := by decide +kernel
theorem dX12_halve_44 : decode cX12_halve 44 = .ok (.iload_n 1, 1) := by decide +kernel
theorem dX12_halve_45 : decode cX12_halve 45 = .ok (.invokevirtual 462, 3) := by decide +kernel
theorem dX12_halve_48 : decode cX12_halve 48 = .ok (.aload_n 0, 1) := by decide +kernel
theorem dX12_halve_49 : decode cX12_halve 49 = .ok (.getfield 153, 3) := by decide +kernel
theorem dX12_halve_52 : decode cX12_halve 52 = .ok (.iload_n 2, 1) := by decide +kernel
theorem dX12_halve_53 : decode cX12_halve 53 = .ok (.iconst 0, 1) := by decide +kernel
theorem dX12_halve_54 : decode cX12_halve 54 = .ok (.bastore, 1) := by decide +kernel
theorem dX12_halve_55 : decode cX12_halve 55 = .ok (.iinc 2 1, 3) := by decide +kernel
theorem dX12_halve_58 : decode cX12_halve 58 = .ok (.goto (-29), 3) := by decide +kernel
theorem dX12_halve_61 : decode cX12_halve 61 = .ok (.aload_n 0, 1) := by decide +kernel
theorem dX12_halve_62 : decode cX12_halve 62 = .ok (.iconst 1, 1) := by decide +kernel
theorem dX12_halve_63 : decode cX12_halve 63 = .ok (.putfield 150, 3) := by decide +kernel
theorem dX12_halve_66 : decode cX12_halve 66 = .ok (.aload_n 0, 1) := by decide +kernel
theorem dX12_halve_67 : decode cX12_halve 67 = .ok (.invokevirtual 443, 3) := by decide +kernel
theorem dX12_halve_70 : decode cX12_halve 70 = .ok (.ifCond .ne 5, 3) := by decide +kernel
theorem dX12_halve_73 : decode cX12_halve 73 = .ok (.iconst 0, 1) := by decide +kernel
theorem dX12_halve_74 : decode cX12_halve 74 = .ok (.ireturn, 1) := by decide +kernel
theorem dX12_halve_75 : decode cX12_halve 75 = .ok (.aload_n 0, 1) := by decide +kernel
theorem dX12_halve_76 : decode cX12_halve 76 = .ok (.invokevirtual 477, 3) := by decide +kernel
theorem dX12_halve_79 : decode cX12_halve 79 = .ok (.iconst 0, 1) := by decide +kernel
theorem dX12_halve_80 : decode cX12_halve 80 = .ok (.istore_n 2, 1) := by decide +kernel
theorem dX12_halve_81 : decode cX12_halve 81 = .ok (.iload_n 2, 1) := by decide +kernel
theorem dX12_halve_82 : decode cX12_halve 82 = .ok (.aload_n 0, 1) := by decide +kernel
theorem dX12_halve_83 : decode cX12_halve 83 = .ok (.getfield 47, 3) := by decide +kernel
theorem dX12_halve_86 : decode cX12_halve 86 = .ok (.iconst 0, 1) := by decide +kernel
theorem dX12_halve_87 : decode cX12_halve 87 = .ok (.iaload, 1) := by decide +kernel
theorem dX12_halve_88 : decode cX12_halve 88 = .ok (.if_icmp .ge 19, 3) := by decide +kernel
theorem dX12_halve_91 : decode cX12_halve 91 = .ok (.iload_n 2, 1) := by decide +kernel
theorem dX12_halve_92 : decode cX12_halve 92 = .ok (.iload_n 1, 1) := by decide +kernel
theorem dX12_halve_93 : decode cX12_halve 93 = .ok (.if_icmp .eq 8, 3) := by decide +kernel
theorem dX12_halve_96 : decode cX12_halve 96 = .ok (.aload_n 0, 1) := by decide +kernel
theorem dX12_halve_97 : decode cX12_halve 97 = .ok (.iload_n 2, 1) := by decide +kernel
theorem dX12_halve_98 : decode cX12_halve 98 = .ok (.invokevirtual 484, 3) := by decide +kernel
theorem dX12_halve_101 : decode cX12_halve 101 = .ok (.iinc 2 1, 3) := by decide +kernel
theorem dX12_halve_104 : decode cX12_halve 104 = .ok (.goto (-23), 3) := by decide +kernel
theorem dX12_halve_107 : decode cX12_halve 107 = .ok (.iconst 1, 1) := by decide +kernel
theorem dX12_halve_108 : decode cX12_halve 108 = .ok (.ireturn, 1) := by decide +kernel
theorem dX12_halves_0 : decode cX12_halves 0 = .ok (.iload_n 1, 1) := by decide +kernel
theorem dX12_halves_1 : decode cX12_halves 1 = .ok (.iconst (-1), 1) := by decide +kernel
theorem dX12_halves_2 : decode cX12_halves 2 = .ok (.if_icmp .eq 17, 3) := by decide +kernel
theorem dX12_halves_5 : decode cX12_halves 5 = .ok (.iload_n 1, 1) := by decide +kernel
theorem dX12_halves_6 : decode cX12_halves 6 = .ok (.bipush (-2), 2) := by decide +kernel
theorem dX12_halves_8 : decode cX12_halves 8 = .ok (.if_icmp .eq 11, 3) := by decide +kernel
theorem dX12_halves_11 : decode cX12_halves 11 = .ok (.aload_n 0, 1) := by decide +kernel
theorem dX12_halves_12 : decode cX12_halves 12 = .ok (.iload_n 1, 1) := by decide +kernel
theorem dX12_halves_13 : decode cX12_halves 13 = .ok (.invokevirtual 373, 3) := by decide +kernel
theorem dX12_halves_16 : decode cX12_halves 16 = .ok (.ifCond .eq 10, 3) := by decide +kernel
theorem dX12_halves_19 : decode cX12_halves 19 = .ok (.aload_n 0, 1) := by decide +kernel
theorem dX12_halves_20 : decode cX12_halves 20 = .ok (.invokevirtual 487, 3) := by decide +kernel
theorem dX12_halves_23 : decode cX12_halves 23 = .ok (.ifCond .ne 5, 3) := by decide +kernel
theorem dX12_halves_26 : decode cX12_halves 26 = .ok (.iconst (-1), 1) := by decide +kernel
theorem dX12_halves_27 : decode cX12_halves 27 = .ok (.ireturn, 1) := by decide +kernel
theorem dX12_halves_28 : decode cX12_halves 28 = .ok (.iload_n 1, 1) := by decide +kernel
theorem dX12_halves_29 : decode cX12_halves 29 = .ok (.iconst (-1), 1) := by decide +kernel
theorem dX12_halves_30 : decode cX12_halves 30 = .ok (.if_icmp .ne 10, 3) := by decide +kernel
theorem dX12_halves_33 : decode cX12_halves 33 = .ok (.aload_n 0, 1) := by decide +kernel
theorem dX12_halves_34 : decode cX12_halves 34 = .ok (.getfield 147, 3) := by decide +kernel
theorem dX12_halves_37 : decode cX12_halves 37 = .ok (.goto 22, 3) := by decide +kernel
theorem dX12_halves_40 : decode cX12_halves 40 = .ok (.iload_n 1, 1) := by decide +kernel
theorem dX12_halves_41 : decode cX12_halves 41 = .ok (.bipush (-2), 2) := by decide +kernel
theorem dX12_halves_43 : decode cX12_halves 43 = .ok (.if_icmp .ne 10, 3) := by decide +kernel
theorem dX12_halves_46 : decode cX12_halves 46 = .ok (.aload_n 0, 1) := by decide +kernel
theorem dX12_halves_47 : decode cX12_halves 47 = .ok (.getfield 150, 3) := by decide +kernel
theorem dX12_halves_50 : decode cX12_halves 50 = .ok (.goto 9, 3) := by decide +kernel
theorem dX12_halves_53 : decode cX12_halves 53 = .ok (.aload_n 0, 1) := by decide +kernel
theorem dX12_halves_54 : decode cX12_halves 54 = .ok (.getfield 144, 3) := by decide +kernel
theorem dX12_halves_57 : decode cX12_halves 57 = .ok (.iload_n 1, 1) := by decide +kernel
theorem dX12_halves_58 : decode cX12_halves 58 = .ok (.iaload, 1) := by decide +kernel
theorem dX12_halves_59 : decode cX12_halves 59 = .ok (.ireturn, 1) := by decide +kernel
theorem dX12_laysSingle_0 : decode cX12_laysSingle 0 = .ok (.aload_n 0, 1) := by decide +kernel
theorem dX12_laysSingle_1 : decode cX12_laysSingle 1 = .ok (.invokevirtual 358, 3) := by decide +kernel
theorem dX12_laysSingle_4 : decode cX12_laysSingle 4 = .ok (.aload_n 0, 1) := by decide +kernel
theorem dX12_laysSingle_5 : decode cX12_laysSingle 5 = .ok (.iconst (-1), 1) := by decide +kernel
theorem dX12_laysSingle_6 : decode cX12_laysSingle 6 = .ok (.putfield 112, 3) := by decide +kernel
theorem dX12_laysSingle_9 : decode cX12_laysSingle 9 = .ok (.aload_n 0, 1) := by decide +kernel
theorem dX12_laysSingle_10 : decode cX12_laysSingle 10 = .ok (.iconst 0, 1) := by decide +kernel
theorem dX12_laysSingle_11 : decode cX12_laysSingle 11 = .ok (.putfield 165, 3) := by decide +kernel
theorem dX12_laysSingle_14 : decode cX12_laysSingle 14 = .ok (.aload_n 0, 1) := by decide +kernel
theorem dX12_laysSingle_15 : decode cX12_laysSingle 15 = .ok (.iconst 0, 1) := by decide +kernel
theorem dX12_laysSingle_16 : decode cX12_laysSingle 16 = .ok (.putfield 168, 3) := by decide +kernel
theorem dX12_laysSingle_19 : decode cX12_laysSingle 19 = .ok (.aload_n 0, 1) := by decide +kernel
theorem dX12_laysSingle_20 : decode cX12_laysSingle 20 = .ok (.iconst (-1), 1) := by decide +kernel
theorem dX12_laysSingle_21 : decode cX12_laysSingle 21 = .ok (.putfield 171, 3) := by decide +kernel
theorem dX12_laysSingle_24 : decode cX12_laysSingle 24 = .ok (.aload_n 0, 1) := by decide +kernel
theorem dX12_laysSingle_25 : decode cX12_laysSingle 25 = .ok (.iconst (-1), 1) := by decide +kernel
theorem dX12_laysSingle_26 : decode cX12_laysSingle 26 = .ok (.putfield 174, 3) := by decide +kernel
theorem dX12_laysSingle_29 : decode cX12_laysSingle 29 = .ok (.aload_n 0, 1) := by decide +kernel
theorem dX12_laysSingle_30 : decode cX12_laysSingle 30 = .ok (.invokevirtual 440, 3) := by decide +kernel
theorem dX12_laysSingle_33 : decode cX12_laysSingle 33 = .ok (.aload_n 0, 1) := by decide +kernel
theorem dX12_laysSingle_34 : decode cX12_laysSingle 34 = .ok (.invokevirtual 449, 3) := by decide +kernel
theorem dX12_laysSingle_37 : decode cX12_laysSingle 37 = .ok (.istore_n 1, 1) := by decide +kernel
theorem dX12_laysSingle_38 : decode cX12_laysSingle 38 = .ok (.iload_n 1, 1) := by decide +kernel
theorem dX12_laysSingle_39 : decode cX12_laysSingle 39 = .ok (.istore_n 2, 1) := by decide +kernel
theorem dX12_laysSingle_40 : decode cX12_laysSingle 40 = .ok (.iconst 0, 1) := by decide +kernel
theorem dX12_laysSingle_41 : decode cX12_laysSingle 41 = .ok (.istore_n 3, 1) := by decide +kernel
theorem dX12_laysSingle_42 : decode cX12_laysSingle 42 = .ok (.iload_n 3, 1) := by decide +kernel
theorem dX12_laysSingle_43 : decode cX12_laysSingle 43 = .ok (.aload_n 0, 1) := by decide +kernel
theorem dX12_laysSingle_44 : decode cX12_laysSingle 44 = .ok (.getfield 103, 3) := by decide +kernel
theorem dX12_laysSingle_47 : decode cX12_laysSingle 47 = .ok (.if_icmp .ge 138, 3) := by decide +kernel
theorem dX12_laysSingle_50 : decode cX12_laysSingle 50 = .ok (.iconst 0, 1) := by decide +kernel
theorem dX12_laysSingle_51 : decode cX12_laysSingle 51 = .ok (.istore 4, 2) := by decide +kernel
theorem dX12_laysSingle_53 : decode cX12_laysSingle 53 = .ok (.iload 4, 2) := by decide +kernel
theorem dX12_laysSingle_55 : decode cX12_laysSingle 55 = .ok (.aload_n 0, 1) := by decide +kernel
theorem dX12_laysSingle_56 : decode cX12_laysSingle 56 = .ok (.getfield 47, 3) := by decide +kernel
theorem dX12_laysSingle_59 : decode cX12_laysSingle 59 = .ok (.iconst 0, 1) := by decide +kernel
theorem dX12_laysSingle_60 : decode cX12_laysSingle 60 = .ok (.iaload, 1) := by decide +kernel
theorem dX12_laysSingle_61 : decode cX12_laysSingle 61 = .ok (.if_icmp .ge 118, 3) := by decide +kernel
theorem dX12_laysSingle_64 : decode cX12_laysSingle 64 = .ok (.aload_n 0, 1) := by decide +kernel
theorem dX12_laysSingle_65 : decode cX12_laysSingle 65 = .ok (.getfield 125, 3) := by decide +kernel
theorem dX12_laysSingle_68 : decode cX12_laysSingle 68 = .ok (.aload_n 0, 1) := by decide +kernel
theorem dX12_laysSingle_69 : decode cX12_laysSingle 69 = .ok (.getfield 100, 3) := by decide +kernel
theorem dX12_laysSingle_72 : decode cX12_laysSingle 72 = .ok (.iload_n 3, 1) := by decide +kernel
theorem dX12_laysSingle_73 : decode cX12_laysSingle 73 = .ok (.iaload, 1) := by decide +kernel
theorem dX12_laysSingle_74 : decode cX12_laysSingle 74 = .ok (.iaload, 1) := by decide +kernel
theorem dX12_laysSingle_75 : decode cX12_laysSingle 75 = .ok (.iload 4, 2) := by decide +kernel
theorem dX12_laysSingle_77 : decode cX12_laysSingle 77 = .ok (.if_icmp .ne 6, 3) := by decide +kernel
theorem dX12_laysSingle_80 : decode cX12_laysSingle 80 = .ok (.goto 93, 3) := by decide +kernel
theorem dX12_laysSingle_83 : decode cX12_laysSingle 83 = .ok (.aload_n 0, 1) := by decide +kernel
theorem dX12_laysSingle_84 : decode cX12_laysSingle 84 = .ok (.invokevirtual 440, 3) := by decide +kernel
theorem dX12_laysSingle_87 : decode cX12_laysSingle 87 = .ok (.aload_n 0, 1) := by decide +kernel
theorem dX12_laysSingle_88 : decode cX12_laysSingle 88 = .ok (.aload_n 0, 1) := by decide +kernel
theorem dX12_laysSingle_89 : decode cX12_laysSingle 89 = .ok (.getfield 100, 3) := by decide +kernel
theorem dX12_laysSingle_92 : decode cX12_laysSingle 92 = .ok (.iload_n 3, 1) := by decide +kernel
theorem dX12_laysSingle_93 : decode cX12_laysSingle 93 = .ok (.iaload, 1) := by decide +kernel
theorem dX12_laysSingle_94 : decode cX12_laysSingle 94 = .ok (.iload 4, 2) := by decide +kernel
theorem dX12_laysSingle_96 : decode cX12_laysSingle 96 = .ok (.invokevirtual 462, 3) := by decide +kernel
theorem dX12_laysSingle_99 : decode cX12_laysSingle 99 = .ok (.aload_n 0, 1) := by decide +kernel
theorem dX12_laysSingle_100 : decode cX12_laysSingle 100 = .ok (.invokevirtual 443, 3) := by decide +kernel
theorem dX12_laysSingle_103 : decode cX12_laysSingle 103 = .ok (.ifCond .ne 6, 3) := by decide +kernel
theorem dX12_laysSingle_106 : decode cX12_laysSingle 106 = .ok (.goto 67, 3) := by decide +kernel
theorem dX12_laysSingle_109 : decode cX12_laysSingle 109 = .ok (.aload_n 0, 1) := by decide +kernel
theorem dX12_laysSingle_110 : decode cX12_laysSingle 110 = .ok (.invokevirtual 449, 3) := by decide +kernel
theorem dX12_laysSingle_113 : decode cX12_laysSingle 113 = .ok (.istore 5, 2) := by decide +kernel
theorem dX12_laysSingle_115 : decode cX12_laysSingle 115 = .ok (.aload_n 0, 1) := by decide +kernel
theorem dX12_laysSingle_116 : decode cX12_laysSingle 116 = .ok (.dup, 1) := by decide +kernel
theorem dX12_laysSingle_117 : decode cX12_laysSingle 117 = .ok (.getfield 165, 3) := by decide +kernel
theorem dX12_laysSingle_120 : decode cX12_laysSingle 120 = .ok (.iconst 1, 1) := by decide +kernel
theorem dX12_laysSingle_121 : decode cX12_laysSingle 121 = .ok (.iadd, 1) := by decide +kernel
theorem dX12_laysSingle_122 : decode cX12_laysSingle 122 = .ok (.putfield 165, 3) := by decide +kernel
theorem dX12_laysSingle_125 : decode cX12_laysSingle 125 = .ok (.aload_n 0, 1) := by decide +kernel
theorem dX12_laysSingle_126 : decode cX12_laysSingle 126 = .ok (.dup, 1) := by decide +kernel
theorem dX12_laysSingle_127 : decode cX12_laysSingle 127 = .ok (.getfield 168, 3) := by decide +kernel
theorem dX12_laysSingle_130 : decode cX12_laysSingle 130 = .ok (.iload 5, 2) := by decide +kernel
theorem dX12_laysSingle_132 : decode cX12_laysSingle 132 = .ok (.iload_n 1, 1) := by decide +kernel
theorem dX12_laysSingle_133 : decode cX12_laysSingle 133 = .ok (.if_icmp .ge 7, 3) := by decide +kernel
theorem dX12_laysSingle_136 : decode cX12_laysSingle 136 = .ok (.iconst 1, 1) := by decide +kernel
theorem dX12_laysSingle_137 : decode cX12_laysSingle 137 = .ok (.goto 4, 3) := by decide +kernel
theorem dX12_laysSingle_140 : decode cX12_laysSingle 140 = .ok (.iconst 0, 1) := by decide +kernel
theorem dX12_laysSingle_141 : decode cX12_laysSingle 141 = .ok (.iadd, 1) := by decide +kernel
theorem dX12_laysSingle_142 : decode cX12_laysSingle 142 = .ok (.putfield 168, 3) := by decide +kernel
theorem dX12_laysSingle_145 : decode cX12_laysSingle 145 = .ok (.iload 5, 2) := by decide +kernel
theorem dX12_laysSingle_147 : decode cX12_laysSingle 147 = .ok (.iload_n 2, 1) := by decide +kernel
theorem dX12_laysSingle_148 : decode cX12_laysSingle 148 = .ok (.if_icmp .lt 6, 3) := by decide +kernel
theorem dX12_laysSingle_151 : decode cX12_laysSingle 151 = .ok (.goto 22, 3) := by decide +kernel
theorem dX12_laysSingle_154 : decode cX12_laysSingle 154 = .ok (.iload 5, 2) := by decide +kernel
theorem dX12_laysSingle_156 : decode cX12_laysSingle 156 = .ok (.istore_n 2, 1) := by decide +kernel
theorem dX12_laysSingle_157 : decode cX12_laysSingle 157 = .ok (.aload_n 0, 1) := by decide +kernel
theorem dX12_laysSingle_158 : decode cX12_laysSingle 158 = .ok (.aload_n 0, 1) := by decide +kernel
theorem dX12_laysSingle_159 : decode cX12_laysSingle 159 = .ok (.getfield 100, 3) := by decide +kernel
theorem dX12_laysSingle_162 : decode cX12_laysSingle 162 = .ok (.iload_n 3, 1) := by decide +kernel
theorem dX12_laysSingle_163 : decode cX12_laysSingle 163 = .ok (.iaload, 1) := by decide +kernel
theorem dX12_laysSingle_164 : decode cX12_laysSingle 164 = .ok (.putfield 171, 3) := by decide +kernel
theorem dX12_laysSingle_167 : decode cX12_laysSingle 167 = .ok (.aload_n 0, 1) := by decide +kernel
theorem dX12_laysSingle_168 : decode cX12_laysSingle 168 = .ok (.iload 4, 2) := by decide +kernel
theorem dX12_laysSingle_170 : decode cX12_laysSingle 170 = .ok (.putfield 174, 3) := by decide +kernel
theorem dX12_laysSingle_173 : decode cX12_laysSingle 173 = .ok (.iinc 4 1, 3) := by decide +kernel
theorem dX12_laysSingle_176 : decode cX12_laysSingle 176 = .ok (.goto (-123), 3) := by decide +kernel
theorem dX12_laysSingle_179 : decode cX12_laysSingle 179 = .ok (.iinc 3 1, 3) := by decide +kernel
theorem dX12_laysSingle_182 : decode cX12_laysSingle 182 = .ok (.goto (-140), 3) := by decide +kernel
theorem dX12_laysSingle_185 : decode cX12_laysSingle 185 = .ok (.return_, 1) := by decide +kernel
theorem dX12_single_0 : decode cX12_single 0 = .ok (.aload_n 0, 1) := by decide +kernel
theorem dX12_single_1 : decode cX12_single 1 = .ok (.invokevirtual 446, 3) := by decide +kernel
theorem dX12_single_4 : decode cX12_single 4 = .ok (.ifCond .eq 15, 3) := by decide +kernel
theorem dX12_single_7 : decode cX12_single 7 = .ok (.iload_n 1, 1) := by decide +kernel
theorem dX12_single_8 : decode cX12_single 8 = .ok (.i2l, 1) := by decide +kernel
theorem dX12_single_9 : decode cX12_single 9 = .ok (.lconst 0, 1) := by decide +kernel
theorem dX12_single_10 : decode cX12_single 10 = .ok (.ldc2_w 490, 3) := by decide +kernel
theorem dX12_single_13 : decode cX12_single 13 = .ok (.invokestatic 263, 3) := by decide +kernel
theorem dX12_single_16 : decode cX12_single 16 = .ok (.ifCond .ne 5, 3) := by decide +kernel
theorem dX12_single_19 : decode cX12_single 19 = .ok (.iconst (-1), 1) := by decide +kernel
theorem dX12_single_20 : decode cX12_single 20 = .ok (.ireturn, 1) := by decide +kernel
theorem dX12_single_21 : decode cX12_single 21 = .ok (.aload_n 0, 1) := by decide +kernel
theorem dX12_single_22 : decode cX12_single 22 = .ok (.invokevirtual 492, 3) := by decide +kernel
theorem dX12_single_25 : decode cX12_single 25 = .ok (.iload_n 1, 1) := by decide +kernel
theorem dX12_single_26 : decode cX12_single 26 = .ok (.ifCond .ne 10, 3) := by decide +kernel
theorem dX12_single_29 : decode cX12_single 29 = .ok (.aload_n 0, 1) := by decide +kernel
theorem dX12_single_30 : decode cX12_single 30 = .ok (.getfield 165, 3) := by decide +kernel
theorem dX12_single_33 : decode cX12_single 33 = .ok (.goto 31, 3) := by decide +kernel
theorem dX12_single_36 : decode cX12_single 36 = .ok (.iload_n 1, 1) := by decide +kernel
theorem dX12_single_37 : decode cX12_single 37 = .ok (.iconst 1, 1) := by decide +kernel
theorem dX12_single_38 : decode cX12_single 38 = .ok (.if_icmp .ne 10, 3) := by decide +kernel
theorem dX12_single_41 : decode cX12_single 41 = .ok (.aload_n 0, 1) := by decide +kernel
theorem dX12_single_42 : decode cX12_single 42 = .ok (.getfield 168, 3) := by decide +kernel
theorem dX12_single_45 : decode cX12_single 45 = .ok (.goto 19, 3) := by decide +kernel
theorem dX12_single_48 : decode cX12_single 48 = .ok (.iload_n 1, 1) := by decide +kernel
theorem dX12_single_49 : decode cX12_single 49 = .ok (.iconst 2, 1) := by decide +kernel
theorem dX12_single_50 : decode cX12_single 50 = .ok (.if_icmp .ne 10, 3) := by decide +kernel
theorem dX12_single_53 : decode cX12_single 53 = .ok (.aload_n 0, 1) := by decide +kernel
theorem dX12_single_54 : decode cX12_single 54 = .ok (.getfield 171, 3) := by decide +kernel
theorem dX12_single_57 : decode cX12_single 57 = .ok (.goto 7, 3) := by decide +kernel
theorem dX12_single_60 : decode cX12_single 60 = .ok (.aload_n 0, 1) := by decide +kernel
theorem dX12_single_61 : decode cX12_single 61 = .ok (.getfield 174, 3) := by decide +kernel
theorem dX12_single_64 : decode cX12_single 64 = .ok (.ireturn, 1) := by decide +kernel
theorem dX12_takesTried_0 : decode cX12_takesTried 0 = .ok (.iconst 0, 1) := by decide +kernel
theorem dX12_takesTried_1 : decode cX12_takesTried 1 = .ok (.istore_n 1, 1) := by decide +kernel
theorem dX12_takesTried_2 : decode cX12_takesTried 2 = .ok (.iload_n 1, 1) := by decide +kernel
theorem dX12_takesTried_3 : decode cX12_takesTried 3 = .ok (.aload_n 0, 1) := by decide +kernel
theorem dX12_takesTried_4 : decode cX12_takesTried 4 = .ok (.getfield 62, 3) := by decide +kernel
theorem dX12_takesTried_7 : decode cX12_takesTried 7 = .ok (.iconst 0, 1) := by decide +kernel
theorem dX12_takesTried_8 : decode cX12_takesTried 8 = .ok (.iaload, 1) := by decide +kernel
theorem dX12_takesTried_9 : decode cX12_takesTried 9 = .ok (.if_icmp .ge 21, 3) := by decide +kernel
theorem dX12_takesTried_12 : decode cX12_takesTried 12 = .ok (.aload_n 0, 1) := by decide +kernel
theorem dX12_takesTried_13 : decode cX12_takesTried 13 = .ok (.getfield 125, 3) := by decide +kernel
theorem dX12_takesTried_16 : decode cX12_takesTried 16 = .ok (.iload_n 1, 1) := by decide +kernel
theorem dX12_takesTried_17 : decode cX12_takesTried 17 = .ok (.aload_n 0, 1) := by decide +kernel
theorem dX12_takesTried_18 : decode cX12_takesTried 18 = .ok (.getfield 132, 3) := by decide +kernel
theorem dX12_takesTried_21 : decode cX12_takesTried 21 = .ok (.iload_n 1, 1) := by decide +kernel
theorem dX12_takesTried_22 : decode cX12_takesTried 22 = .ok (.iaload, 1) := by decide +kernel
theorem dX12_takesTried_23 : decode cX12_takesTried 23 = .ok (.iastore, 1) := by decide +kernel
theorem dX12_takesTried_24 : decode cX12_takesTried 24 = .ok (.iinc 1 1, 3) := by decide +kernel
theorem dX12_takesTried_27 : decode cX12_takesTried 27 = .ok (.goto (-25), 3) := by decide +kernel
theorem dX12_takesTried_30 : decode cX12_takesTried 30 = .ok (.return_, 1) := by decide +kernel
theorem dX12_canTake_0 : decode cX12_canTake 0 = .ok (.iload_n 1, 1) := by decide +kernel
theorem dX12_canTake_1 : decode cX12_canTake 1 = .ok (.ifCond .ne 40, 3) := by decide +kernel
theorem dX12_canTake_4 : decode cX12_canTake 4 = .ok (.aload_n 0, 1) := by decide +kernel
theorem dX12_canTake_5 : decode cX12_canTake 5 = .ok (.invokevirtual 471, 3) := by decide +kernel
theorem dX12_canTake_8 : decode cX12_canTake 8 = .ok (.ifCond .eq 10, 3) := by decide +kernel
theorem dX12_canTake_11 : decode cX12_canTake 11 = .ok (.aload_n 0, 1) := by decide +kernel
theorem dX12_canTake_12 : decode cX12_canTake 12 = .ok (.invokevirtual 474, 3) := by decide +kernel
theorem dX12_canTake_15 : decode cX12_canTake 15 = .ok (.goto 4, 3) := by decide +kernel
theorem dX12_canTake_18 : decode cX12_canTake 18 = .ok (.iconst (-1), 1) := by decide +kernel
theorem dX12_canTake_19 : decode cX12_canTake 19 = .ok (.istore_n 2, 1) := by decide +kernel
theorem dX12_canTake_20 : decode cX12_canTake 20 = .ok (.iload_n 2, 1) := by decide +kernel
theorem dX12_canTake_21 : decode cX12_canTake 21 = .ok (.iconst (-1), 1) := by decide +kernel
theorem dX12_canTake_22 : decode cX12_canTake 22 = .ok (.if_icmp .eq 8, 3) := by decide +kernel
theorem dX12_canTake_25 : decode cX12_canTake 25 = .ok (.aload_n 0, 1) := by decide +kernel
theorem dX12_canTake_26 : decode cX12_canTake 26 = .ok (.iload_n 2, 1) := by decide +kernel
theorem dX12_canTake_27 : decode cX12_canTake 27 = .ok (.invokevirtual 468, 3) := by decide +kernel
theorem dX12_canTake_30 : decode cX12_canTake 30 = .ok (.iload_n 2, 1) := by decide +kernel
theorem dX12_canTake_31 : decode cX12_canTake 31 = .ok (.iconst (-1), 1) := by decide +kernel
theorem dX12_canTake_32 : decode cX12_canTake 32 = .ok (.if_icmp .eq 7, 3) := by decide +kernel
theorem dX12_canTake_35 : decode cX12_canTake 35 = .ok (.iconst 1, 1) := by decide +kernel
theorem dX12_canTake_36 : decode cX12_canTake 36 = .ok (.goto 4, 3) := by decide +kernel
theorem dX12_canTake_39 : decode cX12_canTake 39 = .ok (.iconst 0, 1) := by decide +kernel
theorem dX12_canTake_40 : decode cX12_canTake 40 = .ok (.ireturn, 1) := by decide +kernel
theorem dX12_canTake_41 : decode cX12_canTake 41 = .ok (.iload_n 1, 1) := by decide +kernel
theorem dX12_canTake_42 : decode cX12_canTake 42 = .ok (.iconst 1, 1) := by decide +kernel
theorem dX12_canTake_43 : decode cX12_canTake 43 = .ok (.if_icmp .ne 44, 3) := by decide +kernel
theorem dX12_canTake_46 : decode cX12_canTake 46 = .ok (.aload_n 0, 1) := by decide +kernel
theorem dX12_canTake_47 : decode cX12_canTake 47 = .ok (.invokevirtual 487, 3) := by decide +kernel
theorem dX12_canTake_50 : decode cX12_canTake 50 = .ok (.istore_n 2, 1) := by decide +kernel
theorem dX12_canTake_51 : decode cX12_canTake 51 = .ok (.iconst 0, 1) := by decide +kernel
theorem dX12_canTake_52 : decode cX12_canTake 52 = .ok (.istore_n 3, 1) := by decide +kernel
theorem dX12_canTake_53 : decode cX12_canTake 53 = .ok (.iload_n 3, 1) := by decide +kernel
theorem dX12_canTake_54 : decode cX12_canTake 54 = .ok (.aload_n 0, 1) := by decide +kernel
theorem dX12_canTake_55 : decode cX12_canTake 55 = .ok (.getfield 62, 3) := by decide +kernel
theorem dX12_canTake_58 : decode cX12_canTake 58 = .ok (.iconst 0, 1) := by decide +kernel
theorem dX12_canTake_59 : decode cX12_canTake 59 = .ok (.iaload, 1) := by decide +kernel
theorem dX12_canTake_60 : decode cX12_canTake 60 = .ok (.if_icmp .ge 25, 3) := by decide +kernel
theorem dX12_canTake_63 : decode cX12_canTake 63 = .ok (.iload_n 2, 1) := by decide +kernel
theorem dX12_canTake_64 : decode cX12_canTake 64 = .ok (.ifCond .eq 21, 3) := by decide +kernel
theorem dX12_canTake_67 : decode cX12_canTake 67 = .ok (.aload_n 0, 1) := by decide +kernel
theorem dX12_canTake_68 : decode cX12_canTake 68 = .ok (.getfield 132, 3) := by decide +kernel
theorem dX12_canTake_71 : decode cX12_canTake 71 = .ok (.iload_n 3, 1) := by decide +kernel
theorem dX12_canTake_72 : decode cX12_canTake 72 = .ok (.aload_n 0, 1) := by decide +kernel
theorem dX12_canTake_73 : decode cX12_canTake 73 = .ok (.getfield 144, 3) := by decide +kernel
theorem dX12_canTake_76 : decode cX12_canTake 76 = .ok (.iload_n 3, 1) := by decide +kernel
theorem dX12_canTake_77 : decode cX12_canTake 77 = .ok (.iaload, 1) := by decide +kernel
theorem dX12_canTake_78 : decode cX12_canTake 78 = .ok (.iastore, 1) := by decide +kernel
theorem dX12_canTake_79 : decode cX12_canTake 79 = .ok (.iinc 3 1, 3) := by decide +kernel
theorem dX12_canTake_82 : decode cX12_canTake 82 = .ok (.goto (-29), 3) := by decide +kernel
theorem dX12_canTake_85 : decode cX12_canTake 85 = .ok (.iload_n 2, 1) := by decide +kernel
theorem dX12_canTake_86 : decode cX12_canTake 86 = .ok (.ireturn, 1) := by decide +kernel
theorem dX12_canTake_87 : decode cX12_canTake 87 = .ok (.iload_n 1, 1) := by decide +kernel
theorem dX12_canTake_88 : decode cX12_canTake 88 = .ok (.iconst 2, 1) := by decide +kernel
theorem dX12_canTake_89 : decode cX12_canTake 89 = .ok (.if_icmp .ne 10, 3) := by decide +kernel
theorem dX12_canTake_92 : decode cX12_canTake 92 = .ok (.aload_n 0, 1) := by decide +kernel
theorem dX12_canTake_93 : decode cX12_canTake 93 = .ok (.invokevirtual 446, 3) := by decide +kernel
theorem dX12_canTake_96 : decode cX12_canTake 96 = .ok (.ifCond .ne 5, 3) := by decide +kernel
theorem dX12_canTake_99 : decode cX12_canTake 99 = .ok (.iconst 0, 1) := by decide +kernel
theorem dX12_canTake_100 : decode cX12_canTake 100 = .ok (.ireturn, 1) := by decide +kernel
theorem dX12_canTake_101 : decode cX12_canTake 101 = .ok (.aload_n 0, 1) := by decide +kernel
theorem dX12_canTake_102 : decode cX12_canTake 102 = .ok (.invokevirtual 492, 3) := by decide +kernel
theorem dX12_canTake_105 : decode cX12_canTake 105 = .ok (.aload_n 0, 1) := by decide +kernel
theorem dX12_canTake_106 : decode cX12_canTake 106 = .ok (.invokevirtual 440, 3) := by decide +kernel
theorem dX12_canTake_109 : decode cX12_canTake 109 = .ok (.aload_n 0, 1) := by decide +kernel
theorem dX12_canTake_110 : decode cX12_canTake 110 = .ok (.getfield 171, 3) := by decide +kernel
theorem dX12_canTake_113 : decode cX12_canTake 113 = .ok (.iconst (-1), 1) := by decide +kernel
theorem dX12_canTake_114 : decode cX12_canTake 114 = .ok (.if_icmp .eq 15, 3) := by decide +kernel
theorem dX12_canTake_117 : decode cX12_canTake 117 = .ok (.aload_n 0, 1) := by decide +kernel
theorem dX12_canTake_118 : decode cX12_canTake 118 = .ok (.aload_n 0, 1) := by decide +kernel
theorem dX12_canTake_119 : decode cX12_canTake 119 = .ok (.getfield 171, 3) := by decide +kernel
theorem dX12_canTake_122 : decode cX12_canTake 122 = .ok (.aload_n 0, 1) := by decide +kernel
theorem dX12_canTake_123 : decode cX12_canTake 123 = .ok (.getfield 174, 3) := by decide +kernel
theorem dX12_canTake_126 : decode cX12_canTake 126 = .ok (.invokevirtual 462, 3) := by decide +kernel
theorem dX12_canTake_129 : decode cX12_canTake 129 = .ok (.aload_n 0, 1) := by decide +kernel
theorem dX12_canTake_130 : decode cX12_canTake 130 = .ok (.getfield 171, 3) := by decide +kernel
theorem dX12_canTake_133 : decode cX12_canTake 133 = .ok (.iconst (-1), 1) := by decide +kernel
theorem dX12_canTake_134 : decode cX12_canTake 134 = .ok (.if_icmp .eq 7, 3) := by decide +kernel
theorem dX12_canTake_137 : decode cX12_canTake 137 = .ok (.iconst 1, 1) := by decide +kernel
theorem dX12_canTake_138 : decode cX12_canTake 138 = .ok (.goto 4, 3) := by decide +kernel
theorem dX12_canTake_141 : decode cX12_canTake 141 = .ok (.iconst 0, 1) := by decide +kernel
theorem dX12_canTake_142 : decode cX12_canTake 142 = .ok (.ireturn, 1) := by decide +kernel
theorem dX12_take_0 : decode cX12_take 0 = .ok (.aload_n 0, 1) := by decide +kernel
theorem dX12_take_1 : decode cX12_take 1 = .ok (.iload_n 1, 1) := by decide +kernel
theorem dX12_take_2 : decode cX12_take 2 = .ok (.invokevirtual 495, 3) := by decide +kernel
theorem dX12_take_5 : decode cX12_take 5 = .ok (.ifCond .ne 9, 3) := by decide +kernel
theorem dX12_take_8 : decode cX12_take 8 = .ok (.aload_n 0, 1) := by decide +kernel
theorem dX12_take_9 : decode cX12_take 9 = .ok (.iconst 2, 1) := by decide +kernel
theorem dX12_take_10 : decode cX12_take 10 = .ok (.invokevirtual 216, 3) := by decide +kernel
theorem dX12_take_13 : decode cX12_take 13 = .ok (.ireturn, 1) := by decide +kernel
theorem dX12_take_14 : decode cX12_take 14 = .ok (.aload_n 0, 1) := by decide +kernel
theorem dX12_take_15 : decode cX12_take 15 = .ok (.invokevirtual 498, 3) := by decide +kernel
theorem dX12_take_18 : decode cX12_take 18 = .ok (.aload_n 0, 1) := by decide +kernel
theorem dX12_take_19 : decode cX12_take 19 = .ok (.invokevirtual 449, 3) := by decide +kernel
theorem dX12_take_22 : decode cX12_take 22 = .ok (.ireturn, 1) := by decide +kernel
theorem dX12_laysCouple_0 : decode cX12_laysCouple 0 = .ok (.iconst 0, 1) := by decide +kernel
theorem dX12_laysCouple_1 : decode cX12_laysCouple 1 = .ok (.istore 4, 2) := by decide +kernel
theorem dX12_laysCouple_3 : decode cX12_laysCouple 3 = .ok (.iload 4, 2) := by decide +kernel
theorem dX12_laysCouple_5 : decode cX12_laysCouple 5 = .ok (.aload_n 0, 1) := by decide +kernel
theorem dX12_laysCouple_6 : decode cX12_laysCouple 6 = .ok (.getfield 186, 3) := by decide +kernel
theorem dX12_laysCouple_9 : decode cX12_laysCouple 9 = .ok (.if_icmp .ge 43, 3) := by decide +kernel
theorem dX12_laysCouple_12 : decode cX12_laysCouple 12 = .ok (.aload_n 0, 1) := by decide +kernel
theorem dX12_laysCouple_13 : decode cX12_laysCouple 13 = .ok (.getfield 177, 3) := by decide +kernel
theorem dX12_laysCouple_16 : decode cX12_laysCouple 16 = .ok (.iload 4, 2) := by decide +kernel
theorem dX12_laysCouple_18 : decode cX12_laysCouple 18 = .ok (.iaload, 1) := by decide +kernel
theorem dX12_laysCouple_19 : decode cX12_laysCouple 19 = .ok (.iload_n 1, 1) := by decide +kernel
theorem dX12_laysCouple_20 : decode cX12_laysCouple 20 = .ok (.if_icmp .lt 26, 3) := by decide +kernel
theorem dX12_laysCouple_23 : decode cX12_laysCouple 23 = .ok (.aload_n 0, 1) := by decide +kernel
theorem dX12_laysCouple_24 : decode cX12_laysCouple 24 = .ok (.getfield 177, 3) := by decide +kernel
theorem dX12_laysCouple_27 : decode cX12_laysCouple 27 = .ok (.iload 4, 2) := by decide +kernel
theorem dX12_laysCouple_29 : decode cX12_laysCouple 29 = .ok (.iaload, 1) := by decide +kernel
theorem dX12_laysCouple_30 : decode cX12_laysCouple 30 = .ok (.iload_n 1, 1) := by decide +kernel
theorem dX12_laysCouple_31 : decode cX12_laysCouple 31 = .ok (.if_icmp .ne 21, 3) := by decide +kernel
theorem dX12_laysCouple_34 : decode cX12_laysCouple 34 = .ok (.aload_n 0, 1) := by decide +kernel
theorem dX12_laysCouple_35 : decode cX12_laysCouple 35 = .ok (.getfield 180, 3) := by decide +kernel
theorem dX12_laysCouple_38 : decode cX12_laysCouple 38 = .ok (.iload 4, 2) := by decide +kernel
theorem dX12_laysCouple_40 : decode cX12_laysCouple 40 = .ok (.laload, 1) := by decide +kernel
theorem dX12_laysCouple_41 : decode cX12_laysCouple 41 = .ok (.lload_n 2, 1) := by decide +kernel
theorem dX12_laysCouple_42 : decode cX12_laysCouple 42 = .ok (.lcmp, 1) := by decide +kernel
theorem dX12_laysCouple_43 : decode cX12_laysCouple 43 = .ok (.ifCond .ge 9, 3) := by decide +kernel
theorem dX12_laysCouple_46 : decode cX12_laysCouple 46 = .ok (.iinc 4 1, 3) := by decide +kernel
theorem dX12_laysCouple_49 : decode cX12_laysCouple 49 = .ok (.goto (-46), 3) := by decide +kernel
theorem dX12_laysCouple_52 : decode cX12_laysCouple 52 = .ok (.iload 4, 2) := by decide +kernel
theorem dX12_laysCouple_54 : decode cX12_laysCouple 54 = .ok (.aload_n 0, 1) := by decide +kernel
theorem dX12_laysCouple_55 : decode cX12_laysCouple 55 = .ok (.getfield 186, 3) := by decide +kernel
theorem dX12_laysCouple_58 : decode cX12_laysCouple 58 = .ok (.if_icmp .ge 38, 3) := by decide +kernel
theorem dX12_laysCouple_61 : decode cX12_laysCouple 61 = .ok (.aload_n 0, 1) := by decide +kernel
theorem dX12_laysCouple_62 : decode cX12_laysCouple 62 = .ok (.getfield 177, 3) := by decide +kernel
theorem dX12_laysCouple_65 : decode cX12_laysCouple 65 = .ok (.iload 4, 2) := by decide +kernel
theorem dX12_laysCouple_67 : decode cX12_laysCouple 67 = .ok (.iaload, 1) := by decide +kernel
theorem dX12_laysCouple_68 : decode cX12_laysCouple 68 = .ok (.iload_n 1, 1) := by decide +kernel
theorem dX12_laysCouple_69 : decode cX12_laysCouple 69 = .ok (.if_icmp .ne 27, 3) := by decide +kernel
theorem dX12_laysCouple_72 : decode cX12_laysCouple 72 = .ok (.aload_n 0, 1) := by decide +kernel
theorem dX12_laysCouple_73 : decode cX12_laysCouple 73 = .ok (.getfield 180, 3) := by decide +kernel
theorem dX12_laysCouple_76 : decode cX12_laysCouple 76 = .ok (.iload 4, 2) := by decide +kernel
theorem dX12_laysCouple_78 : decode cX12_laysCouple 78 = .ok (.laload, 1) := by decide +kernel
theorem dX12_laysCouple_79 : decode cX12_laysCouple 79 = .ok (.lload_n 2, 1) := by decide +kernel
theorem dX12_laysCouple_80 : decode cX12_laysCouple 80 = .ok (.lcmp, 1) := by decide +kernel
theorem dX12_laysCouple_81 : decode cX12_laysCouple 81 = .ok (.ifCond .ne 15, 3) := by decide +kernel
theorem dX12_laysCouple_84 : decode cX12_laysCouple 84 = .ok (.aload_n 0, 1) := by decide +kernel
theorem dX12_laysCouple_85 : decode cX12_laysCouple 85 = .ok (.getfield 183, 3) := by decide +kernel
theorem dX12_laysCouple_88 : decode cX12_laysCouple 88 = .ok (.iload 4, 2) := by decide +kernel
theorem dX12_laysCouple_90 : decode cX12_laysCouple 90 = .ok (.dup2, 1) := by decide +kernel
theorem dX12_laysCouple_91 : decode cX12_laysCouple 91 = .ok (.iaload, 1) := by decide +kernel
theorem dX12_laysCouple_92 : decode cX12_laysCouple 92 = .ok (.iconst 1, 1) := by decide +kernel
theorem dX12_laysCouple_93 : decode cX12_laysCouple 93 = .ok (.iadd, 1) := by decide +kernel
theorem dX12_laysCouple_94 : decode cX12_laysCouple 94 = .ok (.iastore, 1) := by decide +kernel
theorem dX12_laysCouple_95 : decode cX12_laysCouple 95 = .ok (.return_, 1) := by decide +kernel
theorem dX12_laysCouple_96 : decode cX12_laysCouple 96 = .ok (.aload_n 0, 1) := by decide +kernel
theorem dX12_laysCouple_97 : decode cX12_laysCouple 97 = .ok (.getfield 186, 3) := by decide +kernel
theorem dX12_laysCouple_100 : decode cX12_laysCouple 100 = .ok (.istore 5, 2) := by decide +kernel
theorem dX12_laysCouple_102 : decode cX12_laysCouple 102 = .ok (.iload 5, 2) := by decide +kernel
theorem dX12_laysCouple_104 : decode cX12_laysCouple 104 = .ok (.iload 4, 2) := by decide +kernel
theorem dX12_laysCouple_106 : decode cX12_laysCouple 106 = .ok (.if_icmp .le 57, 3) := by decide +kernel
theorem dX12_laysCouple_109 : decode cX12_laysCouple 109 = .ok (.aload_n 0, 1) := by decide +kernel
theorem dX12_laysCouple_110 : decode cX12_laysCouple 110 = .ok (.getfield 177, 3) := by decide +kernel
theorem dX12_laysCouple_113 : decode cX12_laysCouple 113 = .ok (.iload 5, 2) := by decide +kernel
theorem dX12_laysCouple_115 : decode cX12_laysCouple 115 = .ok (.aload_n 0, 1) := by decide +kernel
theorem dX12_laysCouple_116 : decode cX12_laysCouple 116 = .ok (.getfield 177, 3) := by decide +kernel
theorem dX12_laysCouple_119 : decode cX12_laysCouple 119 = .ok (.iload 5, 2) := by decide +kernel
theorem dX12_laysCouple_121 : decode cX12_laysCouple 121 = .ok (.iconst 1, 1) := by decide +kernel
theorem dX12_laysCouple_122 : decode cX12_laysCouple 122 = .ok (.isub, 1) := by decide +kernel
theorem dX12_laysCouple_123 : decode cX12_laysCouple 123 = .ok (.iaload, 1) := by decide +kernel
theorem dX12_laysCouple_124 : decode cX12_laysCouple 124 = .ok (.iastore, 1) := by decide +kernel
theorem dX12_laysCouple_125 : decode cX12_laysCouple 125 = .ok (.aload_n 0, 1) := by decide +kernel
theorem dX12_laysCouple_126 : decode cX12_laysCouple 126 = .ok (.getfield 180, 3) := by decide +kernel
theorem dX12_laysCouple_129 : decode cX12_laysCouple 129 = .ok (.iload 5, 2) := by decide +kernel
theorem dX12_laysCouple_131 : decode cX12_laysCouple 131 = .ok (.aload_n 0, 1) := by decide +kernel
theorem dX12_laysCouple_132 : decode cX12_laysCouple 132 = .ok (.getfield 180, 3) := by decide +kernel
theorem dX12_laysCouple_135 : decode cX12_laysCouple 135 = .ok (.iload 5, 2) := by decide +kernel
theorem dX12_laysCouple_137 : decode cX12_laysCouple 137 = .ok (.iconst 1, 1) := by decide +kernel
theorem dX12_laysCouple_138 : decode cX12_laysCouple 138 = .ok (.isub, 1) := by decide +kernel
theorem dX12_laysCouple_139 : decode cX12_laysCouple 139 = .ok (.laload, 1) := by decide +kernel
theorem dX12_laysCouple_140 : decode cX12_laysCouple 140 = .ok (.lastore, 1) := by decide +kernel
theorem dX12_laysCouple_141 : decode cX12_laysCouple 141 = .ok (.aload_n 0, 1) := by decide +kernel
theorem dX12_laysCouple_142 : decode cX12_laysCouple 142 = .ok (.getfield 183, 3) := by decide +kernel
theorem dX12_laysCouple_145 : decode cX12_laysCouple 145 = .ok (.iload 5, 2) := by decide +kernel
theorem dX12_laysCouple_147 : decode cX12_laysCouple 147 = .ok (.aload_n 0, 1) := by decide +kernel
theorem dX12_laysCouple_148 : decode cX12_laysCouple 148 = .ok (.getfield 183, 3) := by decide +kernel
theorem dX12_laysCouple_151 : decode cX12_laysCouple 151 = .ok (.iload 5, 2) := by decide +kernel
theorem dX12_laysCouple_153 : decode cX12_laysCouple 153 = .ok (.iconst 1, 1) := by decide +kernel
theorem dX12_laysCouple_154 : decode cX12_laysCouple 154 = .ok (.isub, 1) := by decide +kernel
theorem dX12_laysCouple_155 : decode cX12_laysCouple 155 = .ok (.iaload, 1) := by decide +kernel
theorem dX12_laysCouple_156 : decode cX12_laysCouple 156 = .ok (.iastore, 1) := by decide +kernel
theorem dX12_laysCouple_157 : decode cX12_laysCouple 157 = .ok (.iinc 5 (-1), 3) := by decide +kernel
theorem dX12_laysCouple_160 : decode cX12_laysCouple 160 = .ok (.goto (-58), 3) := by decide +kernel
theorem dX12_laysCouple_163 : decode cX12_laysCouple 163 = .ok (.aload_n 0, 1) := by decide +kernel
theorem dX12_laysCouple_164 : decode cX12_laysCouple 164 = .ok (.getfield 177, 3) := by decide +kernel
theorem dX12_laysCouple_167 : decode cX12_laysCouple 167 = .ok (.iload 4, 2) := by decide +kernel
theorem dX12_laysCouple_169 : decode cX12_laysCouple 169 = .ok (.iload_n 1, 1) := by decide +kernel
theorem dX12_laysCouple_170 : decode cX12_laysCouple 170 = .ok (.iastore, 1) := by decide +kernel
theorem dX12_laysCouple_171 : decode cX12_laysCouple 171 = .ok (.aload_n 0, 1) := by decide +kernel
theorem dX12_laysCouple_172 : decode cX12_laysCouple 172 = .ok (.getfield 180, 3) := by decide +kernel
theorem dX12_laysCouple_175 : decode cX12_laysCouple 175 = .ok (.iload 4, 2) := by decide +kernel
theorem dX12_laysCouple_177 : decode cX12_laysCouple 177 = .ok (.lload_n 2, 1) := by decide +kernel
theorem dX12_laysCouple_178 : decode cX12_laysCouple 178 = .ok (.lastore, 1) := by decide +kernel
theorem dX12_laysCouple_179 : decode cX12_laysCouple 179 = .ok (.aload_n 0, 1) := by decide +kernel
theorem dX12_laysCouple_180 : decode cX12_laysCouple 180 = .ok (.getfield 183, 3) := by decide +kernel
theorem dX12_laysCouple_183 : decode cX12_laysCouple 183 = .ok (.iload 4, 2) := by decide +kernel
theorem dX12_laysCouple_185 : decode cX12_laysCouple 185 = .ok (.iconst 1, 1) := by decide +kernel
theorem dX12_laysCouple_186 : decode cX12_laysCouple 186 = .ok (.iastore, 1) := by decide +kernel
theorem dX12_laysCouple_187 : decode cX12_laysCouple 187 = .ok (.aload_n 0, 1) := by decide +kernel
theorem dX12_laysCouple_188 : decode cX12_laysCouple 188 = .ok (.dup, 1) := by decide +kernel
theorem dX12_laysCouple_189 : decode cX12_laysCouple 189 = .ok (.getfield 186, 3) := by decide +kernel
theorem dX12_laysCouple_192 : decode cX12_laysCouple 192 = .ok (.iconst 1, 1) := by decide +kernel
theorem dX12_laysCouple_193 : decode cX12_laysCouple 193 = .ok (.iadd, 1) := by decide +kernel
theorem dX12_laysCouple_194 : decode cX12_laysCouple 194 = .ok (.putfield 186, 3) := by decide +kernel
theorem dX12_laysCouple_197 : decode cX12_laysCouple 197 = .ok (.return_, 1) := by decide +kernel
theorem dX12_laysFront_0 : decode cX12_laysFront 0 = .ok (.aload_n 0, 1) := by decide +kernel
theorem dX12_laysFront_1 : decode cX12_laysFront 1 = .ok (.iconst 0, 1) := by decide +kernel
theorem dX12_laysFront_2 : decode cX12_laysFront 2 = .ok (.putfield 186, 3) := by decide +kernel
theorem dX12_laysFront_5 : decode cX12_laysFront 5 = .ok (.aload_n 0, 1) := by decide +kernel
theorem dX12_laysFront_6 : decode cX12_laysFront 6 = .ok (.invokevirtual 465, 3) := by decide +kernel
theorem dX12_laysFront_9 : decode cX12_laysFront 9 = .ok (.istore_n 2, 1) := by decide +kernel
theorem dX12_laysFront_10 : decode cX12_laysFront 10 = .ok (.iconst 0, 1) := by decide +kernel
theorem dX12_laysFront_11 : decode cX12_laysFront 11 = .ok (.istore_n 3, 1) := by decide +kernel
theorem dX12_laysFront_12 : decode cX12_laysFront 12 = .ok (.iload_n 3, 1) := by decide +kernel
theorem dX12_laysFront_13 : decode cX12_laysFront 13 = .ok (.iload_n 2, 1) := by decide +kernel
theorem dX12_laysFront_14 : decode cX12_laysFront 14 = .ok (.if_icmp .ge 35, 3) := by decide +kernel
theorem dX12_laysFront_17 : decode cX12_laysFront 17 = .ok (.aload_n 0, 1) := by decide +kernel
theorem dX12_laysFront_18 : decode cX12_laysFront 18 = .ok (.iload_n 3, 1) := by decide +kernel
theorem dX12_laysFront_19 : decode cX12_laysFront 19 = .ok (.invokevirtual 468, 3) := by decide +kernel
theorem dX12_laysFront_22 : decode cX12_laysFront 22 = .ok (.aload_n 0, 1) := by decide +kernel
theorem dX12_laysFront_23 : decode cX12_laysFront 23 = .ok (.invokevirtual 443, 3) := by decide +kernel
theorem dX12_laysFront_26 : decode cX12_laysFront 26 = .ok (.ifCond .eq 17, 3) := by decide +kernel
theorem dX12_laysFront_29 : decode cX12_laysFront 29 = .ok (.aload_n 0, 1) := by decide +kernel
theorem dX12_laysFront_30 : decode cX12_laysFront 30 = .ok (.aload_n 0, 1) := by decide +kernel
theorem dX12_laysFront_31 : decode cX12_laysFront 31 = .ok (.invokevirtual 449, 3) := by decide +kernel
theorem dX12_laysFront_34 : decode cX12_laysFront 34 = .ok (.aload_n 0, 1) := by decide +kernel
theorem dX12_laysFront_35 : decode cX12_laysFront 35 = .ok (.getfield 135, 3) := by decide +kernel
theorem dX12_laysFront_38 : decode cX12_laysFront 38 = .ok (.iload_n 1, 1) := by decide +kernel
theorem dX12_laysFront_39 : decode cX12_laysFront 39 = .ok (.laload, 1) := by decide +kernel
theorem dX12_laysFront_40 : decode cX12_laysFront 40 = .ok (.invokevirtual 501, 3) := by decide +kernel
theorem dX12_laysFront_43 : decode cX12_laysFront 43 = .ok (.iinc 3 1, 3) := by decide +kernel
theorem dX12_laysFront_46 : decode cX12_laysFront 46 = .ok (.goto (-34), 3) := by decide +kernel
theorem dX12_laysFront_49 : decode cX12_laysFront 49 = .ok (.iconst 0, 1) := by decide +kernel
theorem dX12_laysFront_50 : decode cX12_laysFront 50 = .ok (.istore_n 3, 1) := by decide +kernel
theorem dX12_laysFront_51 : decode cX12_laysFront 51 = .ok (.iconst 0, 1) := by decide +kernel
theorem dX12_laysFront_52 : decode cX12_laysFront 52 = .ok (.istore 4, 2) := by decide +kernel
theorem dX12_laysFront_54 : decode cX12_laysFront 54 = .ok (.iload 4, 2) := by decide +kernel
theorem dX12_laysFront_56 : decode cX12_laysFront 56 = .ok (.aload_n 0, 1) := by decide +kernel
theorem dX12_laysFront_57 : decode cX12_laysFront 57 = .ok (.getfield 186, 3) := by decide +kernel
theorem dX12_laysFront_60 : decode cX12_laysFront 60 = .ok (.if_icmp .ge 77, 3) := by decide +kernel
theorem dX12_laysFront_63 : decode cX12_laysFront 63 = .ok (.iload_n 3, 1) := by decide +kernel
theorem dX12_laysFront_64 : decode cX12_laysFront 64 = .ok (.ifCond .le 25, 3) := by decide +kernel
theorem dX12_laysFront_67 : decode cX12_laysFront 67 = .ok (.aload_n 0, 1) := by decide +kernel
theorem dX12_laysFront_68 : decode cX12_laysFront 68 = .ok (.getfield 180, 3) := by decide +kernel
theorem dX12_laysFront_71 : decode cX12_laysFront 71 = .ok (.iload 4, 2) := by decide +kernel
theorem dX12_laysFront_73 : decode cX12_laysFront 73 = .ok (.laload, 1) := by decide +kernel
theorem dX12_laysFront_74 : decode cX12_laysFront 74 = .ok (.aload_n 0, 1) := by decide +kernel
theorem dX12_laysFront_75 : decode cX12_laysFront 75 = .ok (.getfield 180, 3) := by decide +kernel
theorem dX12_laysFront_78 : decode cX12_laysFront 78 = .ok (.iload_n 3, 1) := by decide +kernel
theorem dX12_laysFront_79 : decode cX12_laysFront 79 = .ok (.iconst 1, 1) := by decide +kernel
theorem dX12_laysFront_80 : decode cX12_laysFront 80 = .ok (.isub, 1) := by decide +kernel
theorem dX12_laysFront_81 : decode cX12_laysFront 81 = .ok (.laload, 1) := by decide +kernel
theorem dX12_laysFront_82 : decode cX12_laysFront 82 = .ok (.lcmp, 1) := by decide +kernel
theorem dX12_laysFront_83 : decode cX12_laysFront 83 = .ok (.ifCond .lt 6, 3) := by decide +kernel
theorem dX12_laysFront_86 : decode cX12_laysFront 86 = .ok (.goto 45, 3) := by decide +kernel
theorem dX12_laysFront_89 : decode cX12_laysFront 89 = .ok (.aload_n 0, 1) := by decide +kernel
theorem dX12_laysFront_90 : decode cX12_laysFront 90 = .ok (.getfield 177, 3) := by decide +kernel
theorem dX12_laysFront_93 : decode cX12_laysFront 93 = .ok (.iload_n 3, 1) := by decide +kernel
theorem dX12_laysFront_94 : decode cX12_laysFront 94 = .ok (.aload_n 0, 1) := by decide +kernel
theorem dX12_laysFront_95 : decode cX12_laysFront 95 = .ok (.getfield 177, 3) := by decide +kernel
theorem dX12_laysFront_98 : decode cX12_laysFront 98 = .ok (.iload 4, 2) := by decide +kernel
theorem dX12_laysFront_100 : decode cX12_laysFront 100 = .ok (.iaload, 1) := by decide +kernel
theorem dX12_laysFront_101 : decode cX12_laysFront 101 = .ok (.iastore, 1) := by decide +kernel
theorem dX12_laysFront_102 : decode cX12_laysFront 102 = .ok (.aload_n 0, 1) := by decide +kernel
theorem dX12_laysFront_103 : decode cX12_laysFront 103 = .ok (.getfield 180, 3) := by decide +kernel
theorem dX12_laysFront_106 : decode cX12_laysFront 106 = .ok (.iload_n 3, 1) := by decide +kernel
theorem dX12_laysFront_107 : decode cX12_laysFront 107 = .ok (.aload_n 0, 1) := by decide +kernel
theorem dX12_laysFront_108 : decode cX12_laysFront 108 = .ok (.getfield 180, 3) := by decide +kernel
theorem dX12_laysFront_111 : decode cX12_laysFront 111 = .ok (.iload 4, 2) := by decide +kernel
theorem dX12_laysFront_113 : decode cX12_laysFront 113 = .ok (.laload, 1) := by decide +kernel
theorem dX12_laysFront_114 : decode cX12_laysFront 114 = .ok (.lastore, 1) := by decide +kernel
theorem dX12_laysFront_115 : decode cX12_laysFront 115 = .ok (.aload_n 0, 1) := by decide +kernel
theorem dX12_laysFront_116 : decode cX12_laysFront 116 = .ok (.getfield 183, 3) := by decide +kernel
theorem dX12_laysFront_119 : decode cX12_laysFront 119 = .ok (.iload_n 3, 1) := by decide +kernel
theorem dX12_laysFront_120 : decode cX12_laysFront 120 = .ok (.aload_n 0, 1) := by decide +kernel
theorem dX12_laysFront_121 : decode cX12_laysFront 121 = .ok (.getfield 183, 3) := by decide +kernel
theorem dX12_laysFront_124 : decode cX12_laysFront 124 = .ok (.iload 4, 2) := by decide +kernel
theorem dX12_laysFront_126 : decode cX12_laysFront 126 = .ok (.iaload, 1) := by decide +kernel
theorem dX12_laysFront_127 : decode cX12_laysFront 127 = .ok (.iastore, 1) := by decide +kernel
theorem dX12_laysFront_128 : decode cX12_laysFront 128 = .ok (.iinc 3 1, 3) := by decide +kernel
theorem dX12_laysFront_131 : decode cX12_laysFront 131 = .ok (.iinc 4 1, 3) := by decide +kernel
theorem dX12_laysFront_134 : decode cX12_laysFront 134 = .ok (.goto (-80), 3) := by decide +kernel
theorem dX12_laysFront_137 : decode cX12_laysFront 137 = .ok (.aload_n 0, 1) := by decide +kernel
theorem dX12_laysFront_138 : decode cX12_laysFront 138 = .ok (.iload_n 3, 1) := by decide +kernel
theorem dX12_laysFront_139 : decode cX12_laysFront 139 = .ok (.putfield 186, 3) := by decide +kernel
theorem dX12_laysFront_142 : decode cX12_laysFront 142 = .ok (.return_, 1) := by decide +kernel
theorem dX12_front_0 : decode cX12_front 0 = .ok (.aload_n 0, 1) := by decide +kernel
theorem dX12_front_1 : decode cX12_front 1 = .ok (.iload_n 1, 1) := by decide +kernel
theorem dX12_front_2 : decode cX12_front 2 = .ok (.invokevirtual 455, 3) := by decide +kernel
theorem dX12_front_5 : decode cX12_front 5 = .ok (.ifCond .eq 22, 3) := by decide +kernel
theorem dX12_front_8 : decode cX12_front 8 = .ok (.aload_n 0, 1) := by decide +kernel
theorem dX12_front_9 : decode cX12_front 9 = .ok (.invokevirtual 471, 3) := by decide +kernel
theorem dX12_front_12 : decode cX12_front 12 = .ok (.ifCond .eq 15, 3) := by decide +kernel
theorem dX12_front_15 : decode cX12_front 15 = .ok (.iload_n 3, 1) := by decide +kernel
theorem dX12_front_16 : decode cX12_front 16 = .ok (.i2l, 1) := by decide +kernel
theorem dX12_front_17 : decode cX12_front 17 = .ok (.lconst 0, 1) := by decide +kernel
theorem dX12_front_18 : decode cX12_front 18 = .ok (.ldc2_w 383, 3) := by decide +kernel
theorem dX12_front_21 : decode cX12_front 21 = .ok (.invokestatic 263, 3) := by decide +kernel
theorem dX12_front_24 : decode cX12_front 24 = .ok (.ifCond .ne 7, 3) := by decide +kernel
theorem dX12_front_27 : decode cX12_front 27 = .ok (.ldc2_w 381, 3) := by decide +kernel
theorem dX12_front_30 : decode cX12_front 30 = .ok (.lreturn, 1) := by decide +kernel
theorem dX12_front_31 : decode cX12_front 31 = .ok (.aload_n 0, 1) := by decide +kernel
theorem dX12_front_32 : decode cX12_front 32 = .ok (.iload_n 1, 1) := by decide +kernel
theorem dX12_front_33 : decode cX12_front 33 = .ok (.invokevirtual 505, 3) := by decide +kernel
theorem dX12_front_36 : decode cX12_front 36 = .ok (.iload_n 2, 1) := by decide +kernel
theorem dX12_front_37 : decode cX12_front 37 = .ok (.iconst (-1), 1) := by decide +kernel
theorem dX12_front_38 : decode cX12_front 38 = .ok (.if_icmp .ne 19, 3) := by decide +kernel
theorem dX12_front_41 : decode cX12_front 41 = .ok (.iload_n 3, 1) := by decide +kernel
theorem dX12_front_42 : decode cX12_front 42 = .ok (.ifCond .ne 11, 3) := by decide +kernel
theorem dX12_front_45 : decode cX12_front 45 = .ok (.aload_n 0, 1) := by decide +kernel
theorem dX12_front_46 : decode cX12_front 46 = .ok (.getfield 186, 3) := by decide +kernel
theorem dX12_front_49 : decode cX12_front 49 = .ok (.i2l, 1) := by decide +kernel
theorem dX12_front_50 : decode cX12_front 50 = .ok (.goto 6, 3) := by decide +kernel
theorem dX12_front_53 : decode cX12_front 53 = .ok (.ldc2_w 381, 3) := by decide +kernel
theorem dX12_front_56 : decode cX12_front 56 = .ok (.lreturn, 1) := by decide +kernel
theorem dX12_front_57 : decode cX12_front 57 = .ok (.iload_n 2, 1) := by decide +kernel
theorem dX12_front_58 : decode cX12_front 58 = .ok (.i2l, 1) := by decide +kernel
theorem dX12_front_59 : decode cX12_front 59 = .ok (.lconst 0, 1) := by decide +kernel
theorem dX12_front_60 : decode cX12_front 60 = .ok (.aload_n 0, 1) := by decide +kernel
theorem dX12_front_61 : decode cX12_front 61 = .ok (.getfield 186, 3) := by decide +kernel
theorem dX12_front_64 : decode cX12_front 64 = .ok (.i2l, 1) := by decide +kernel
theorem dX12_front_65 : decode cX12_front 65 = .ok (.lconst 1, 1) := by decide +kernel
theorem dX12_front_66 : decode cX12_front 66 = .ok (.lsub, 1) := by decide +kernel
theorem dX12_front_67 : decode cX12_front 67 = .ok (.invokestatic 263, 3) := by decide +kernel
theorem dX12_front_70 : decode cX12_front 70 = .ok (.ifCond .ne 7, 3) := by decide +kernel
theorem dX12_front_73 : decode cX12_front 73 = .ok (.ldc2_w 381, 3) := by decide +kernel
theorem dX12_front_76 : decode cX12_front 76 = .ok (.lreturn, 1) := by decide +kernel
theorem dX12_front_77 : decode cX12_front 77 = .ok (.iload_n 3, 1) := by decide +kernel
theorem dX12_front_78 : decode cX12_front 78 = .ok (.ifCond .ne 13, 3) := by decide +kernel
theorem dX12_front_81 : decode cX12_front 81 = .ok (.aload_n 0, 1) := by decide +kernel
theorem dX12_front_82 : decode cX12_front 82 = .ok (.getfield 177, 3) := by decide +kernel
theorem dX12_front_85 : decode cX12_front 85 = .ok (.iload_n 2, 1) := by decide +kernel
theorem dX12_front_86 : decode cX12_front 86 = .ok (.iaload, 1) := by decide +kernel
theorem dX12_front_87 : decode cX12_front 87 = .ok (.i2l, 1) := by decide +kernel
theorem dX12_front_88 : decode cX12_front 88 = .ok (.goto 24, 3) := by decide +kernel
theorem dX12_front_91 : decode cX12_front 91 = .ok (.iload_n 3, 1) := by decide +kernel
theorem dX12_front_92 : decode cX12_front 92 = .ok (.iconst 1, 1) := by decide +kernel
theorem dX12_front_93 : decode cX12_front 93 = .ok (.if_icmp .ne 12, 3) := by decide +kernel
theorem dX12_front_96 : decode cX12_front 96 = .ok (.aload_n 0, 1) := by decide +kernel
theorem dX12_front_97 : decode cX12_front 97 = .ok (.getfield 180, 3) := by decide +kernel
theorem dX12_front_100 : decode cX12_front 100 = .ok (.iload_n 2, 1) := by decide +kernel
theorem dX12_front_101 : decode cX12_front 101 = .ok (.laload, 1) := by decide +kernel
theorem dX12_front_102 : decode cX12_front 102 = .ok (.goto 10, 3) := by decide +kernel
theorem dX12_front_105 : decode cX12_front 105 = .ok (.aload_n 0, 1) := by decide +kernel
theorem dX12_front_106 : decode cX12_front 106 = .ok (.getfield 183, 3) := by decide +kernel
theorem dX12_front_109 : decode cX12_front 109 = .ok (.iload_n 2, 1) := by decide +kernel
theorem dX12_front_110 : decode cX12_front 110 = .ok (.iaload, 1) := by decide +kernel
theorem dX12_front_111 : decode cX12_front 111 = .ok (.i2l, 1) := by decide +kernel
theorem dX12_front_112 : decode cX12_front 112 = .ok (.lreturn, 1) := by decide +kernel
theorem dX12_least_0 : decode cX12_least 0 = .ok (.aload_n 0, 1) := by decide +kernel
theorem dX12_least_1 : decode cX12_least 1 = .ok (.iload_n 1, 1) := by decide +kernel
theorem dX12_least_2 : decode cX12_least 2 = .ok (.invokevirtual 455, 3) := by decide +kernel
theorem dX12_least_5 : decode cX12_least 5 = .ok (.ifCond .eq 10, 3) := by decide +kernel
theorem dX12_least_8 : decode cX12_least 8 = .ok (.aload_n 0, 1) := by decide +kernel
theorem dX12_least_9 : decode cX12_least 9 = .ok (.invokevirtual 471, 3) := by decide +kernel
theorem dX12_least_12 : decode cX12_least 12 = .ok (.ifCond .ne 7, 3) := by decide +kernel
theorem dX12_least_15 : decode cX12_least 15 = .ok (.ldc2_w 381, 3) := by decide +kernel
theorem dX12_least_18 : decode cX12_least 18 = .ok (.lreturn, 1) := by decide +kernel
theorem dX12_least_19 : decode cX12_least 19 = .ok (.ldc2_w 381, 3) := by decide +kernel
theorem dX12_least_22 : decode cX12_least 22 = .ok (.lstore_n 3, 1) := by decide +kernel
theorem dX12_least_23 : decode cX12_least 23 = .ok (.aload_n 0, 1) := by decide +kernel
theorem dX12_least_24 : decode cX12_least 24 = .ok (.invokevirtual 465, 3) := by decide +kernel
theorem dX12_least_27 : decode cX12_least 27 = .ok (.istore 5, 2) := by decide +kernel
theorem dX12_least_29 : decode cX12_least 29 = .ok (.iconst 0, 1) := by decide +kernel
theorem dX12_least_30 : decode cX12_least 30 = .ok (.istore 6, 2) := by decide +kernel
theorem dX12_least_32 : decode cX12_least 32 = .ok (.iload 6, 2) := by decide +kernel
theorem dX12_least_34 : decode cX12_least 34 = .ok (.iload 5, 2) := by decide +kernel
theorem dX12_least_36 : decode cX12_least 36 = .ok (.if_icmp .ge 61, 3) := by decide +kernel
theorem dX12_least_39 : decode cX12_least 39 = .ok (.aload_n 0, 1) := by decide +kernel
theorem dX12_least_40 : decode cX12_least 40 = .ok (.iload 6, 2) := by decide +kernel
theorem dX12_least_42 : decode cX12_least 42 = .ok (.invokevirtual 468, 3) := by decide +kernel
theorem dX12_least_45 : decode cX12_least 45 = .ok (.aload_n 0, 1) := by decide +kernel
theorem dX12_least_46 : decode cX12_least 46 = .ok (.invokevirtual 449, 3) := by decide +kernel
theorem dX12_least_49 : decode cX12_least 49 = .ok (.iload_n 2, 1) := by decide +kernel
theorem dX12_least_50 : decode cX12_least 50 = .ok (.if_icmp .gt 41, 3) := by decide +kernel
theorem dX12_least_53 : decode cX12_least 53 = .ok (.aload_n 0, 1) := by decide +kernel
theorem dX12_least_54 : decode cX12_least 54 = .ok (.invokevirtual 443, 3) := by decide +kernel
theorem dX12_least_57 : decode cX12_least 57 = .ok (.ifCond .ne 6, 3) := by decide +kernel
theorem dX12_least_60 : decode cX12_least 60 = .ok (.goto 31, 3) := by decide +kernel
theorem dX12_least_63 : decode cX12_least 63 = .ok (.lload_n 3, 1) := by decide +kernel
theorem dX12_least_64 : decode cX12_least 64 = .ok (.ldc2_w 381, 3) := by decide +kernel
theorem dX12_least_67 : decode cX12_least 67 = .ok (.lcmp, 1) := by decide +kernel
theorem dX12_least_68 : decode cX12_least 68 = .ok (.ifCond .ne 12, 3) := by decide +kernel
theorem dX12_least_71 : decode cX12_least 71 = .ok (.aload_n 0, 1) := by decide +kernel
theorem dX12_least_72 : decode cX12_least 72 = .ok (.getfield 135, 3) := by decide +kernel
theorem dX12_least_75 : decode cX12_least 75 = .ok (.iload_n 1, 1) := by decide +kernel
theorem dX12_least_76 : decode cX12_least 76 = .ok (.laload, 1) := by decide +kernel
theorem dX12_least_77 : decode cX12_least 77 = .ok (.goto 13, 3) := by decide +kernel
theorem dX12_least_80 : decode cX12_least 80 = .ok (.lload_n 3, 1) := by decide +kernel
theorem dX12_least_81 : decode cX12_least 81 = .ok (.aload_n 0, 1) := by decide +kernel
theorem dX12_least_82 : decode cX12_least 82 = .ok (.getfield 135, 3) := by decide +kernel
theorem dX12_least_85 : decode cX12_least 85 = .ok (.iload_n 1, 1) := by decide +kernel
theorem dX12_least_86 : decode cX12_least 86 = .ok (.laload, 1) := by decide +kernel
theorem dX12_least_87 : decode cX12_least 87 = .ok (.invokestatic 322, 3) := by decide +kernel
theorem dX12_least_90 : decode cX12_least 90 = .ok (.lstore_n 3, 1) := by decide +kernel
theorem dX12_least_91 : decode cX12_least 91 = .ok (.iinc 6 1, 3) := by decide +kernel
theorem dX12_least_94 : decode cX12_least 94 = .ok (.goto (-62), 3) := by decide +kernel
theorem dX12_least_97 : decode cX12_least 97 = .ok (.lload_n 3, 1) := by decide +kernel
theorem dX12_least_98 : decode cX12_least 98 = .ok (.lreturn, 1) := by decide +kernel
theorem dX12_byteOf_0 : decode cX12_byteOf 0 = .ok (.lload_n 0, 1) := by decide +kernel
theorem dX12_byteOf_1 : decode cX12_byteOf 1 = .ok (.bipush 8, 2) := by decide +kernel
theorem dX12_byteOf_3 : decode cX12_byteOf 3 = .ok (.bipush 7, 2) := by decide +kernel
theorem dX12_byteOf_5 : decode cX12_byteOf 5 = .ok (.iload_n 2, 1) := by decide +kernel
theorem dX12_byteOf_6 : decode cX12_byteOf 6 = .ok (.isub, 1) := by decide +kernel
theorem dX12_byteOf_7 : decode cX12_byteOf 7 = .ok (.imul, 1) := by decide +kernel
theorem dX12_byteOf_8 : decode cX12_byteOf 8 = .ok (.lshr, 1) := by decide +kernel
theorem dX12_byteOf_9 : decode cX12_byteOf 9 = .ok (.ldc2_w 508, 3) := by decide +kernel
theorem dX12_byteOf_12 : decode cX12_byteOf 12 = .ok (.land, 1) := by decide +kernel
theorem dX12_byteOf_13 : decode cX12_byteOf 13 = .ok (.l2i, 1) := by decide +kernel
theorem dX12_byteOf_14 : decode cX12_byteOf 14 = .ok (.ireturn, 1) := by decide +kernel
theorem dX12_certificate_0 : decode cX12_certificate 0 = .ok (.aload_n 0, 1) := by decide +kernel
theorem dX12_certificate_1 : decode cX12_certificate 1 = .ok (.invokevirtual 452, 3) := by decide +kernel
theorem dX12_certificate_4 : decode cX12_certificate 4 = .ok (.ifCond .eq 24, 3) := by decide +kernel
theorem dX12_certificate_7 : decode cX12_certificate 7 = .ok (.iload_n 1, 1) := by decide +kernel
theorem dX12_certificate_8 : decode cX12_certificate 8 = .ok (.i2l, 1) := by decide +kernel
theorem dX12_certificate_9 : decode cX12_certificate 9 = .ok (.lconst 0, 1) := by decide +kernel
theorem dX12_certificate_10 : decode cX12_certificate 10 = .ok (.bipush 25, 2) := by decide +kernel
theorem dX12_certificate_12 : decode cX12_certificate 12 = .ok (.aload_n 0, 1) := by decide +kernel
theorem dX12_certificate_13 : decode cX12_certificate 13 = .ok (.getfield 62, 3) := by decide +kernel
theorem dX12_certificate_16 : decode cX12_certificate 16 = .ok (.iconst 0, 1) := by decide +kernel
theorem dX12_certificate_17 : decode cX12_certificate 17 = .ok (.iaload, 1) := by decide +kernel
theorem dX12_certificate_18 : decode cX12_certificate 18 = .ok (.imul, 1) := by decide +kernel
theorem dX12_certificate_19 : decode cX12_certificate 19 = .ok (.i2l, 1) := by decide +kernel
theorem dX12_certificate_20 : decode cX12_certificate 20 = .ok (.lconst 1, 1) := by decide +kernel
theorem dX12_certificate_21 : decode cX12_certificate 21 = .ok (.lsub, 1) := by decide +kernel
theorem dX12_certificate_22 : decode cX12_certificate 22 = .ok (.invokestatic 263, 3) := by decide +kernel
theorem dX12_certificate_25 : decode cX12_certificate 25 = .ok (.ifCond .ne 5, 3) := by decide +kernel
theorem dX12_certificate_28 : decode cX12_certificate 28 = .ok (.iconst (-1), 1) := by decide +kernel
theorem dX12_certificate_29 : decode cX12_certificate 29 = .ok (.ireturn, 1) := by decide +kernel
theorem dX12_certificate_30 : decode cX12_certificate 30 = .ok (.iload_n 1, 1) := by decide +kernel
theorem dX12_certificate_31 : decode cX12_certificate 31 = .ok (.bipush 25, 2) := by decide +kernel
theorem dX12_certificate_33 : decode cX12_certificate 33 = .ok (.idiv, 1) := by decide +kernel
theorem dX12_certificate_34 : decode cX12_certificate 34 = .ok (.istore_n 2, 1) := by decide +kernel
theorem dX12_certificate_35 : decode cX12_certificate 35 = .ok (.iload_n 1, 1) := by decide +kernel
theorem dX12_certificate_36 : decode cX12_certificate 36 = .ok (.bipush 25, 2) := by decide +kernel
theorem dX12_certificate_38 : decode cX12_certificate 38 = .ok (.irem, 1) := by decide +kernel
theorem dX12_certificate_39 : decode cX12_certificate 39 = .ok (.istore_n 3, 1) := by decide +kernel
theorem dX12_certificate_40 : decode cX12_certificate 40 = .ok (.iload_n 3, 1) := by decide +kernel
theorem dX12_certificate_41 : decode cX12_certificate 41 = .ok (.ifCond .ne 10, 3) := by decide +kernel
theorem dX12_certificate_44 : decode cX12_certificate 44 = .ok (.aload_n 0, 1) := by decide +kernel
theorem dX12_certificate_45 : decode cX12_certificate 45 = .ok (.getfield 125, 3) := by decide +kernel
theorem dX12_certificate_48 : decode cX12_certificate 48 = .ok (.iload_n 2, 1) := by decide +kernel
theorem dX12_certificate_49 : decode cX12_certificate 49 = .ok (.iaload, 1) := by decide +kernel
theorem dX12_certificate_50 : decode cX12_certificate 50 = .ok (.ireturn, 1) := by decide +kernel
theorem dX12_certificate_51 : decode cX12_certificate 51 = .ok (.iload_n 3, 1) := by decide +kernel
theorem dX12_certificate_52 : decode cX12_certificate 52 = .ok (.bipush 9, 2) := by decide +kernel
theorem dX12_certificate_54 : decode cX12_certificate 54 = .ok (.if_icmp .ge 18, 3) := by decide +kernel
theorem dX12_certificate_57 : decode cX12_certificate 57 = .ok (.aload_n 0, 1) := by decide +kernel
theorem dX12_certificate_58 : decode cX12_certificate 58 = .ok (.getfield 106, 3) := by decide +kernel
theorem dX12_certificate_61 : decode cX12_certificate 61 = .ok (.iload_n 2, 1) := by decide +kernel
theorem dX12_certificate_62 : decode cX12_certificate 62 = .ok (.laload, 1) := by decide +kernel
theorem dX12_certificate_63 : decode cX12_certificate 63 = .ok (.iload_n 3, 1) := by decide +kernel
theorem dX12_certificate_64 : decode cX12_certificate 64 = .ok (.iconst 1, 1) := by decide +kernel
theorem dX12_certificate_65 : decode cX12_certificate 65 = .ok (.isub, 1) := by decide +kernel
theorem dX12_certificate_66 : decode cX12_certificate 66 = .ok (.invokestatic 510, 3) := by decide +kernel
theorem dX12_certificate_69 : decode cX12_certificate 69 = .ok (.goto 38, 3) := by decide +kernel
theorem dX12_certificate_72 : decode cX12_certificate 72 = .ok (.iload_n 3, 1) := by decide +kernel
theorem dX12_certificate_73 : decode cX12_certificate 73 = .ok (.bipush 17, 2) := by decide +kernel
theorem dX12_certificate_75 : decode cX12_certificate 75 = .ok (.if_icmp .ge 19, 3) := by decide +kernel
theorem dX12_certificate_78 : decode cX12_certificate 78 = .ok (.aload_n 0, 1) := by decide +kernel
theorem dX12_certificate_79 : decode cX12_certificate 79 = .ok (.getfield 109, 3) := by decide +kernel
theorem dX12_certificate_82 : decode cX12_certificate 82 = .ok (.iload_n 2, 1) := by decide +kernel
theorem dX12_certificate_83 : decode cX12_certificate 83 = .ok (.laload, 1) := by decide +kernel
theorem dX12_certificate_84 : decode cX12_certificate 84 = .ok (.iload_n 3, 1) := by decide +kernel
theorem dX12_certificate_85 : decode cX12_certificate 85 = .ok (.bipush 9, 2) := by decide +kernel
theorem dX12_certificate_87 : decode cX12_certificate 87 = .ok (.isub, 1) := by decide +kernel
theorem dX12_certificate_88 : decode cX12_certificate 88 = .ok (.invokestatic 510, 3) := by decide +kernel
theorem dX12_certificate_91 : decode cX12_certificate 91 = .ok (.goto 16, 3) := by decide +kernel
theorem dX12_certificate_94 : decode cX12_certificate 94 = .ok (.aload_n 0, 1) := by decide +kernel
theorem dX12_certificate_95 : decode cX12_certificate 95 = .ok (.getfield 135, 3) := by decide +kernel
theorem dX12_certificate_98 : decode cX12_certificate 98 = .ok (.iload_n 2, 1) := by decide +kernel
theorem dX12_certificate_99 : decode cX12_certificate 99 = .ok (.laload, 1) := by decide +kernel
theorem dX12_certificate_100 : decode cX12_certificate 100 = .ok (.iload_n 3, 1) := by decide +kernel
theorem dX12_certificate_101 : decode cX12_certificate 101 = .ok (.bipush 17, 2) := by decide +kernel
theorem dX12_certificate_103 : decode cX12_certificate 103 = .ok (.isub, 1) := by decide +kernel
theorem dX12_certificate_104 : decode cX12_certificate 104 = .ok (.invokestatic 510, 3) := by decide +kernel
theorem dX12_certificate_107 : decode cX12_certificate 107 = .ok (.ireturn, 1) := by decide +kernel
theorem dX12_readsLong_0 : decode cX12_readsLong 0 = .ok (.lconst 0, 1) := by decide +kernel
theorem dX12_readsLong_1 : decode cX12_readsLong 1 = .ok (.lstore_n 2, 1) := by decide +kernel
theorem dX12_readsLong_2 : decode cX12_readsLong 2 = .ok (.iconst 0, 1) := by decide +kernel
theorem dX12_readsLong_3 : decode cX12_readsLong 3 = .ok (.istore 4, 2) := by decide +kernel
theorem dX12_readsLong_5 : decode cX12_readsLong 5 = .ok (.iload 4, 2) := by decide +kernel
theorem dX12_readsLong_7 : decode cX12_readsLong 7 = .ok (.bipush 8, 2) := by decide +kernel
theorem dX12_readsLong_9 : decode cX12_readsLong 9 = .ok (.if_icmp .ge 25, 3) := by decide +kernel
theorem dX12_readsLong_12 : decode cX12_readsLong 12 = .ok (.lload_n 2, 1) := by decide +kernel
theorem dX12_readsLong_13 : decode cX12_readsLong 13 = .ok (.bipush 8, 2) := by decide +kernel
theorem dX12_readsLong_15 : decode cX12_readsLong 15 = .ok (.lshl, 1) := by decide +kernel
theorem dX12_readsLong_16 : decode cX12_readsLong 16 = .ok (.aload_n 0, 1) := by decide +kernel
theorem dX12_readsLong_17 : decode cX12_readsLong 17 = .ok (.getfield 7, 3) := by decide +kernel
theorem dX12_readsLong_20 : decode cX12_readsLong 20 = .ok (.iload_n 1, 1) := by decide +kernel
theorem dX12_readsLong_21 : decode cX12_readsLong 21 = .ok (.iload 4, 2) := by decide +kernel
theorem dX12_readsLong_23 : decode cX12_readsLong 23 = .ok (.iadd, 1) := by decide +kernel
theorem dX12_readsLong_24 : decode cX12_readsLong 24 = .ok (.iaload, 1) := by decide +kernel
theorem dX12_readsLong_25 : decode cX12_readsLong 25 = .ok (.i2l, 1) := by decide +kernel
theorem dX12_readsLong_26 : decode cX12_readsLong 26 = .ok (.lor, 1) := by decide +kernel
theorem dX12_readsLong_27 : decode cX12_readsLong 27 = .ok (.lstore_n 2, 1) := by decide +kernel
theorem dX12_readsLong_28 : decode cX12_readsLong 28 = .ok (.iinc 4 1, 3) := by decide +kernel
theorem dX12_readsLong_31 : decode cX12_readsLong 31 = .ok (.goto (-26), 3) := by decide +kernel
theorem dX12_readsLong_34 : decode cX12_readsLong 34 = .ok (.lload_n 2, 1) := by decide +kernel
theorem dX12_readsLong_35 : decode cX12_readsLong 35 = .ok (.ldc2_w 514, 3) := by decide +kernel
theorem dX12_readsLong_38 : decode cX12_readsLong 38 = .ok (.lcmp, 1) := by decide +kernel
theorem dX12_readsLong_39 : decode cX12_readsLong 39 = .ok (.ifCond .le 9, 3) := by decide +kernel
theorem dX12_readsLong_42 : decode cX12_readsLong 42 = .ok (.ldc2_w 514, 3) := by decide +kernel
theorem dX12_readsLong_45 : decode cX12_readsLong 45 = .ok (.goto 18, 3) := by decide +kernel
theorem dX12_readsLong_48 : decode cX12_readsLong 48 = .ok (.lload_n 2, 1) := by decide +kernel
theorem dX12_readsLong_49 : decode cX12_readsLong 49 = .ok (.ldc2_w 516, 3) := by decide +kernel
theorem dX12_readsLong_52 : decode cX12_readsLong 52 = .ok (.lcmp, 1) := by decide +kernel
theorem dX12_readsLong_53 : decode cX12_readsLong 53 = .ok (.ifCond .ge 9, 3) := by decide +kernel
theorem dX12_readsLong_56 : decode cX12_readsLong 56 = .ok (.ldc2_w 516, 3) := by decide +kernel
theorem dX12_readsLong_59 : decode cX12_readsLong 59 = .ok (.goto 4, 3) := by decide +kernel
theorem dX12_readsLong_62 : decode cX12_readsLong 62 = .ok (.lload_n 2, 1) := by decide +kernel
theorem dX12_readsLong_63 : decode cX12_readsLong 63 = .ok (.lreturn, 1) := by decide +kernel
theorem dX12_isFormatSaid_0 : decode cX12_isFormatSaid 0 = .ok (.aload_n 0, 1) := by decide +kernel
theorem dX12_isFormatSaid_1 : decode cX12_isFormatSaid 1 = .ok (.aload_n 0, 1) := by decide +kernel
theorem dX12_isFormatSaid_2 : decode cX12_isFormatSaid 2 = .ok (.getfield 195, 3) := by decide +kernel
theorem dX12_isFormatSaid_5 : decode cX12_isFormatSaid 5 = .ok (.iload_n 1, 1) := by decide +kernel
theorem dX12_isFormatSaid_6 : decode cX12_isFormatSaid 6 = .ok (.iaload, 1) := by decide +kernel
theorem dX12_isFormatSaid_7 : decode cX12_isFormatSaid 7 = .ok (.invokevirtual 370, 3) := by decide +kernel
theorem dX12_isFormatSaid_10 : decode cX12_isFormatSaid 10 = .ok (.ifCond .ne 5, 3) := by decide +kernel
theorem dX12_isFormatSaid_13 : decode cX12_isFormatSaid 13 = .ok (.iconst 0, 1) := by decide +kernel
theorem dX12_isFormatSaid_14 : decode cX12_isFormatSaid 14 = .ok (.ireturn, 1) := by decide +kernel
theorem dX12_isFormatSaid_15 : decode cX12_isFormatSaid 15 = .ok (.iconst 0, 1) := by decide +kernel
theorem dX12_isFormatSaid_16 : decode cX12_isFormatSaid 16 = .ok (.istore_n 2, 1) := by decide +kernel
theorem dX12_isFormatSaid_17 : decode cX12_isFormatSaid 17 = .ok (.iload_n 2, 1) := by decide +kernel
theorem dX12_isFormatSaid_18 : decode cX12_isFormatSaid 18 = .ok (.aload_n 0, 1) := by decide +kernel
theorem dX12_isFormatSaid_19 : decode cX12_isFormatSaid 19 = .ok (.getfield 62, 3) := by decide +kernel
theorem dX12_isFormatSaid_22 : decode cX12_isFormatSaid 22 = .ok (.iconst 0, 1) := by decide +kernel
theorem dX12_isFormatSaid_23 : decode cX12_isFormatSaid 23 = .ok (.iaload, 1) := by decide +kernel
theorem dX12_isFormatSaid_24 : decode cX12_isFormatSaid 24 = .ok (.if_icmp .ge 74, 3) := by decide +kernel
theorem dX12_isFormatSaid_27 : decode cX12_isFormatSaid 27 = .ok (.aload_n 0, 1) := by decide +kernel
theorem dX12_isFormatSaid_28 : decode cX12_isFormatSaid 28 = .ok (.getfield 93, 3) := by decide +kernel
theorem dX12_isFormatSaid_31 : decode cX12_isFormatSaid 31 = .ok (.iload_n 2, 1) := by decide +kernel
theorem dX12_isFormatSaid_32 : decode cX12_isFormatSaid 32 = .ok (.iaload, 1) := by decide +kernel
theorem dX12_isFormatSaid_33 : decode cX12_isFormatSaid 33 = .ok (.aload_n 0, 1) := by decide +kernel
theorem dX12_isFormatSaid_34 : decode cX12_isFormatSaid 34 = .ok (.getfield 93, 3) := by decide +kernel
theorem dX12_isFormatSaid_37 : decode cX12_isFormatSaid 37 = .ok (.iload_n 1, 1) := by decide +kernel
theorem dX12_isFormatSaid_38 : decode cX12_isFormatSaid 38 = .ok (.iaload, 1) := by decide +kernel
theorem dX12_isFormatSaid_39 : decode cX12_isFormatSaid 39 = .ok (.if_icmp .eq 6, 3) := by decide +kernel
theorem dX12_isFormatSaid_42 : decode cX12_isFormatSaid 42 = .ok (.goto 50, 3) := by decide +kernel
theorem dX12_isFormatSaid_45 : decode cX12_isFormatSaid 45 = .ok (.iload_n 2, 1) := by decide +kernel
theorem dX12_isFormatSaid_46 : decode cX12_isFormatSaid 46 = .ok (.iload_n 1, 1) := by decide +kernel
theorem dX12_isFormatSaid_47 : decode cX12_isFormatSaid 47 = .ok (.if_icmp .ge 18, 3) := by decide +kernel
theorem dX12_isFormatSaid_50 : decode cX12_isFormatSaid 50 = .ok (.aload_n 0, 1) := by decide +kernel
theorem dX12_isFormatSaid_51 : decode cX12_isFormatSaid 51 = .ok (.getfield 195, 3) := by decide +kernel
theorem dX12_isFormatSaid_54 : decode cX12_isFormatSaid 54 = .ok (.iload_n 2, 1) := by decide +kernel
theorem dX12_isFormatSaid_55 : decode cX12_isFormatSaid 55 = .ok (.iaload, 1) := by decide +kernel
theorem dX12_isFormatSaid_56 : decode cX12_isFormatSaid 56 = .ok (.aload_n 0, 1) := by decide +kernel
theorem dX12_isFormatSaid_57 : decode cX12_isFormatSaid 57 = .ok (.getfield 195, 3) := by decide +kernel
theorem dX12_isFormatSaid_60 : decode cX12_isFormatSaid 60 = .ok (.iload_n 1, 1) := by decide +kernel
theorem dX12_isFormatSaid_61 : decode cX12_isFormatSaid 61 = .ok (.iaload, 1) := by decide +kernel
theorem dX12_isFormatSaid_62 : decode cX12_isFormatSaid 62 = .ok (.if_icmp .ne 28, 3) := by decide +kernel
theorem dX12_isFormatSaid_65 : decode cX12_isFormatSaid 65 = .ok (.aload_n 0, 1) := by decide +kernel
theorem dX12_isFormatSaid_66 : decode cX12_isFormatSaid 66 = .ok (.getfield 87, 3) := by decide +kernel
theorem dX12_isFormatSaid_69 : decode cX12_isFormatSaid 69 = .ok (.iload_n 2, 1) := by decide +kernel
theorem dX12_isFormatSaid_70 : decode cX12_isFormatSaid 70 = .ok (.iaload, 1) := by decide +kernel
theorem dX12_isFormatSaid_71 : decode cX12_isFormatSaid 71 = .ok (.iconst (-1), 1) := by decide +kernel
theorem dX12_isFormatSaid_72 : decode cX12_isFormatSaid 72 = .ok (.if_icmp .eq 20, 3) := by decide +kernel
theorem dX12_isFormatSaid_75 : decode cX12_isFormatSaid 75 = .ok (.aload_n 0, 1) := by decide +kernel
theorem dX12_isFormatSaid_76 : decode cX12_isFormatSaid 76 = .ok (.getfield 87, 3) := by decide +kernel
theorem dX12_isFormatSaid_79 : decode cX12_isFormatSaid 79 = .ok (.iload_n 2, 1) := by decide +kernel
theorem dX12_isFormatSaid_80 : decode cX12_isFormatSaid 80 = .ok (.iaload, 1) := by decide +kernel
theorem dX12_isFormatSaid_81 : decode cX12_isFormatSaid 81 = .ok (.aload_n 0, 1) := by decide +kernel
theorem dX12_isFormatSaid_82 : decode cX12_isFormatSaid 82 = .ok (.getfield 195, 3) := by decide +kernel
theorem dX12_isFormatSaid_85 : decode cX12_isFormatSaid 85 = .ok (.iload_n 1, 1) := by decide +kernel
theorem dX12_isFormatSaid_86 : decode cX12_isFormatSaid 86 = .ok (.iaload, 1) := by decide +kernel
theorem dX12_isFormatSaid_87 : decode cX12_isFormatSaid 87 = .ok (.if_icmp .eq 5, 3) := by decide +kernel
theorem dX12_isFormatSaid_90 : decode cX12_isFormatSaid 90 = .ok (.iconst 0, 1) := by decide +kernel
theorem dX12_isFormatSaid_91 : decode cX12_isFormatSaid 91 = .ok (.ireturn, 1) := by decide +kernel
theorem dX12_isFormatSaid_92 : decode cX12_isFormatSaid 92 = .ok (.iinc 2 1, 3) := by decide +kernel
theorem dX12_isFormatSaid_95 : decode cX12_isFormatSaid 95 = .ok (.goto (-78), 3) := by decide +kernel
theorem dX12_isFormatSaid_98 : decode cX12_isFormatSaid 98 = .ok (.iconst 1, 1) := by decide +kernel
theorem dX12_isFormatSaid_99 : decode cX12_isFormatSaid 99 = .ok (.ireturn, 1) := by decide +kernel
theorem dX12_breaks_0 : decode cX12_breaks 0 = .ok (.aload_n 0, 1) := by decide +kernel
theorem dX12_breaks_1 : decode cX12_breaks 1 = .ok (.iload_n 1, 1) := by decide +kernel
theorem dX12_breaks_2 : decode cX12_breaks 2 = .ok (.invokevirtual 518, 3) := by decide +kernel
theorem dX12_breaks_5 : decode cX12_breaks 5 = .ok (.ifCond .ne 5, 3) := by decide +kernel
theorem dX12_breaks_8 : decode cX12_breaks 8 = .ok (.iconst 1, 1) := by decide +kernel
theorem dX12_breaks_9 : decode cX12_breaks 9 = .ok (.ireturn, 1) := by decide +kernel
theorem dX12_breaks_10 : decode cX12_breaks 10 = .ok (.aload_n 0, 1) := by decide +kernel
theorem dX12_breaks_11 : decode cX12_breaks 11 = .ok (.getfield 132, 3) := by decide +kernel
theorem dX12_breaks_14 : decode cX12_breaks 14 = .ok (.iload_n 1, 1) := by decide +kernel
theorem dX12_breaks_15 : decode cX12_breaks 15 = .ok (.aload_n 0, 1) := by decide +kernel
theorem dX12_breaks_16 : decode cX12_breaks 16 = .ok (.getfield 195, 3) := by decide +kernel
theorem dX12_breaks_19 : decode cX12_breaks 19 = .ok (.iload_n 1, 1) := by decide +kernel
theorem dX12_breaks_20 : decode cX12_breaks 20 = .ok (.iaload, 1) := by decide +kernel
theorem dX12_breaks_21 : decode cX12_breaks 21 = .ok (.iastore, 1) := by decide +kernel
theorem dX12_breaks_22 : decode cX12_breaks 22 = .ok (.aload_n 0, 1) := by decide +kernel
theorem dX12_breaks_23 : decode cX12_breaks 23 = .ok (.iload_n 1, 1) := by decide +kernel
theorem dX12_breaks_24 : decode cX12_breaks 24 = .ok (.invokevirtual 417, 3) := by decide +kernel
theorem dX12_breaks_27 : decode cX12_breaks 27 = .ok (.aload_n 0, 1) := by decide +kernel
theorem dX12_breaks_28 : decode cX12_breaks 28 = .ok (.iload_n 1, 1) := by decide +kernel
theorem dX12_breaks_29 : decode cX12_breaks 29 = .ok (.invokevirtual 430, 3) := by decide +kernel
theorem dX12_breaks_32 : decode cX12_breaks 32 = .ok (.aload_n 0, 1) := by decide +kernel
theorem dX12_breaks_33 : decode cX12_breaks 33 = .ok (.getfield 198, 3) := by decide +kernel
theorem dX12_breaks_36 : decode cX12_breaks 36 = .ok (.iload_n 1, 1) := by decide +kernel
theorem dX12_breaks_37 : decode cX12_breaks 37 = .ok (.laload, 1) := by decide +kernel
theorem dX12_breaks_38 : decode cX12_breaks 38 = .ok (.aload_n 0, 1) := by decide +kernel
theorem dX12_breaks_39 : decode cX12_breaks 39 = .ok (.getfield 106, 3) := by decide +kernel
theorem dX12_breaks_42 : decode cX12_breaks 42 = .ok (.iload_n 1, 1) := by decide +kernel
theorem dX12_breaks_43 : decode cX12_breaks 43 = .ok (.laload, 1) := by decide +kernel
theorem dX12_breaks_44 : decode cX12_breaks 44 = .ok (.lcmp, 1) := by decide +kernel
theorem dX12_breaks_45 : decode cX12_breaks 45 = .ok (.ifCond .le 5, 3) := by decide +kernel
theorem dX12_breaks_48 : decode cX12_breaks 48 = .ok (.iconst 2, 1) := by decide +kernel
theorem dX12_breaks_49 : decode cX12_breaks 49 = .ok (.ireturn, 1) := by decide +kernel
theorem dX12_breaks_50 : decode cX12_breaks 50 = .ok (.aload_n 0, 1) := by decide +kernel
theorem dX12_breaks_51 : decode cX12_breaks 51 = .ok (.getfield 201, 3) := by decide +kernel
theorem dX12_breaks_54 : decode cX12_breaks 54 = .ok (.iload_n 1, 1) := by decide +kernel
theorem dX12_breaks_55 : decode cX12_breaks 55 = .ok (.laload, 1) := by decide +kernel
theorem dX12_breaks_56 : decode cX12_breaks 56 = .ok (.aload_n 0, 1) := by decide +kernel
theorem dX12_breaks_57 : decode cX12_breaks 57 = .ok (.getfield 109, 3) := by decide +kernel
theorem dX12_breaks_60 : decode cX12_breaks 60 = .ok (.iload_n 1, 1) := by decide +kernel
theorem dX12_breaks_61 : decode cX12_breaks 61 = .ok (.laload, 1) := by decide +kernel
theorem dX12_breaks_62 : decode cX12_breaks 62 = .ok (.lcmp, 1) := by decide +kernel
theorem dX12_breaks_63 : decode cX12_breaks 63 = .ok (.ifCond .ge 5, 3) := by decide +kernel
theorem dX12_breaks_66 : decode cX12_breaks 66 = .ok (.iconst 3, 1) := by decide +kernel
theorem dX12_breaks_67 : decode cX12_breaks 67 = .ok (.ireturn, 1) := by decide +kernel
theorem dX12_breaks_68 : decode cX12_breaks 68 = .ok (.aload_n 0, 1) := by decide +kernel
theorem dX12_breaks_69 : decode cX12_breaks 69 = .ok (.getfield 204, 3) := by decide +kernel
theorem dX12_breaks_72 : decode cX12_breaks 72 = .ok (.iload_n 1, 1) := by decide +kernel
theorem dX12_breaks_73 : decode cX12_breaks 73 = .ok (.laload, 1) := by decide +kernel
theorem dX12_breaks_74 : decode cX12_breaks 74 = .ok (.aload_n 0, 1) := by decide +kernel
theorem dX12_breaks_75 : decode cX12_breaks 75 = .ok (.getfield 135, 3) := by decide +kernel
theorem dX12_breaks_78 : decode cX12_breaks 78 = .ok (.iload_n 1, 1) := by decide +kernel
theorem dX12_breaks_79 : decode cX12_breaks 79 = .ok (.laload, 1) := by decide +kernel
theorem dX12_breaks_80 : decode cX12_breaks 80 = .ok (.lcmp, 1) := by decide +kernel
theorem dX12_breaks_81 : decode cX12_breaks 81 = .ok (.ifCond .lt 14, 3) := by decide +kernel
theorem dX12_breaks_84 : decode cX12_breaks 84 = .ok (.aload_n 0, 1) := by decide +kernel
theorem dX12_breaks_85 : decode cX12_breaks 85 = .ok (.getfield 204, 3) := by decide +kernel
theorem dX12_breaks_88 : decode cX12_breaks 88 = .ok (.iload_n 1, 1) := by decide +kernel
theorem dX12_breaks_89 : decode cX12_breaks 89 = .ok (.laload, 1) := by decide +kernel
theorem dX12_breaks_90 : decode cX12_breaks 90 = .ok (.lconst 0, 1) := by decide +kernel
theorem dX12_breaks_91 : decode cX12_breaks 91 = .ok (.lcmp, 1) := by decide +kernel
theorem dX12_breaks_92 : decode cX12_breaks 92 = .ok (.ifCond .ge 5, 3) := by decide +kernel
theorem dX12_breaks_95 : decode cX12_breaks 95 = .ok (.iconst 4, 1) := by decide +kernel
theorem dX12_breaks_96 : decode cX12_breaks 96 = .ok (.ireturn, 1) := by decide +kernel
theorem dX12_breaks_97 : decode cX12_breaks 97 = .ok (.aload_n 0, 1) := by decide +kernel
theorem dX12_breaks_98 : decode cX12_breaks 98 = .ok (.getfield 106, 3) := by decide +kernel
theorem dX12_breaks_101 : decode cX12_breaks 101 = .ok (.iload_n 1, 1) := by decide +kernel
theorem dX12_breaks_102 : decode cX12_breaks 102 = .ok (.aload_n 0, 1) := by decide +kernel
theorem dX12_breaks_103 : decode cX12_breaks 103 = .ok (.getfield 198, 3) := by decide +kernel
theorem dX12_breaks_106 : decode cX12_breaks 106 = .ok (.iload_n 1, 1) := by decide +kernel
theorem dX12_breaks_107 : decode cX12_breaks 107 = .ok (.laload, 1) := by decide +kernel
theorem dX12_breaks_108 : decode cX12_breaks 108 = .ok (.lastore, 1) := by decide +kernel
theorem dX12_breaks_109 : decode cX12_breaks 109 = .ok (.aload_n 0, 1) := by decide +kernel
theorem dX12_breaks_110 : decode cX12_breaks 110 = .ok (.getfield 109, 3) := by decide +kernel
theorem dX12_breaks_113 : decode cX12_breaks 113 = .ok (.iload_n 1, 1) := by decide +kernel
theorem dX12_breaks_114 : decode cX12_breaks 114 = .ok (.aload_n 0, 1) := by decide +kernel
theorem dX12_breaks_115 : decode cX12_breaks 115 = .ok (.getfield 201, 3) := by decide +kernel
theorem dX12_breaks_118 : decode cX12_breaks 118 = .ok (.iload_n 1, 1) := by decide +kernel
theorem dX12_breaks_119 : decode cX12_breaks 119 = .ok (.laload, 1) := by decide +kernel
theorem dX12_breaks_120 : decode cX12_breaks 120 = .ok (.lastore, 1) := by decide +kernel
theorem dX12_breaks_121 : decode cX12_breaks 121 = .ok (.aload_n 0, 1) := by decide +kernel
theorem dX12_breaks_122 : decode cX12_breaks 122 = .ok (.getfield 135, 3) := by decide +kernel
theorem dX12_breaks_125 : decode cX12_breaks 125 = .ok (.iload_n 1, 1) := by decide +kernel
theorem dX12_breaks_126 : decode cX12_breaks 126 = .ok (.aload_n 0, 1) := by decide +kernel
theorem dX12_breaks_127 : decode cX12_breaks 127 = .ok (.getfield 204, 3) := by decide +kernel
theorem dX12_breaks_130 : decode cX12_breaks 130 = .ok (.iload_n 1, 1) := by decide +kernel
theorem dX12_breaks_131 : decode cX12_breaks 131 = .ok (.laload, 1) := by decide +kernel
theorem dX12_breaks_132 : decode cX12_breaks 132 = .ok (.lastore, 1) := by decide +kernel
theorem dX12_breaks_133 : decode cX12_breaks 133 = .ok (.aload_n 0, 1) := by decide +kernel
theorem dX12_breaks_134 : decode cX12_breaks 134 = .ok (.iload_n 1, 1) := by decide +kernel
theorem dX12_breaks_135 : decode cX12_breaks 135 = .ok (.invokevirtual 420, 3) := by decide +kernel
theorem dX12_breaks_138 : decode cX12_breaks 138 = .ok (.aload_n 0, 1) := by decide +kernel
theorem dX12_breaks_139 : decode cX12_breaks 139 = .ok (.getfield 135, 3) := by decide +kernel
theorem dX12_breaks_142 : decode cX12_breaks 142 = .ok (.iload_n 1, 1) := by decide +kernel
theorem dX12_breaks_143 : decode cX12_breaks 143 = .ok (.laload, 1) := by decide +kernel
theorem dX12_breaks_144 : decode cX12_breaks 144 = .ok (.ladd, 1) := by decide +kernel
theorem dX12_breaks_145 : decode cX12_breaks 145 = .ok (.aload_n 0, 1) := by decide +kernel
theorem dX12_breaks_146 : decode cX12_breaks 146 = .ok (.getfield 56, 3) := by decide +kernel
theorem dX12_breaks_149 : decode cX12_breaks 149 = .ok (.aload_n 0, 1) := by decide +kernel
theorem dX12_breaks_150 : decode cX12_breaks 150 = .ok (.getfield 132, 3) := by decide +kernel
theorem dX12_breaks_153 : decode cX12_breaks 153 = .ok (.iload_n 1, 1) := by decide +kernel
theorem dX12_breaks_154 : decode cX12_breaks 154 = .ok (.iaload, 1) := by decide +kernel
theorem dX12_breaks_155 : decode cX12_breaks 155 = .ok (.iaload, 1) := by decide +kernel
theorem dX12_breaks_156 : decode cX12_breaks 156 = .ok (.i2l, 1) := by decide +kernel
theorem dX12_breaks_157 : decode cX12_breaks 157 = .ok (.lcmp, 1) := by decide +kernel
theorem dX12_breaks_158 : decode cX12_breaks 158 = .ok (.ifCond .le 5, 3) := by decide +kernel
theorem dX12_breaks_161 : decode cX12_breaks 161 = .ok (.iconst 5, 1) := by decide +kernel
theorem dX12_breaks_162 : decode cX12_breaks 162 = .ok (.ireturn, 1) := by decide +kernel
theorem dX12_breaks_163 : decode cX12_breaks 163 = .ok (.aload_n 0, 1) := by decide +kernel
theorem dX12_breaks_164 : decode cX12_breaks 164 = .ok (.getfield 90, 3) := by decide +kernel
theorem dX12_breaks_167 : decode cX12_breaks 167 = .ok (.iload_n 1, 1) := by decide +kernel
theorem dX12_breaks_168 : decode cX12_breaks 168 = .ok (.iaload, 1) := by decide +kernel
theorem dX12_breaks_169 : decode cX12_breaks 169 = .ok (.iconst (-1), 1) := by decide +kernel
theorem dX12_breaks_170 : decode cX12_breaks 170 = .ok (.if_icmp .eq 25, 3) := by decide +kernel
theorem dX12_breaks_173 : decode cX12_breaks 173 = .ok (.aload_n 0, 1) := by decide +kernel
theorem dX12_breaks_174 : decode cX12_breaks 174 = .ok (.getfield 135, 3) := by decide +kernel
theorem dX12_breaks_177 : decode cX12_breaks 177 = .ok (.iload_n 1, 1) := by decide +kernel
theorem dX12_breaks_178 : decode cX12_breaks 178 = .ok (.laload, 1) := by decide +kernel
theorem dX12_breaks_179 : decode cX12_breaks 179 = .ok (.aload_n 0, 1) := by decide +kernel
theorem dX12_breaks_180 : decode cX12_breaks 180 = .ok (.getfield 90, 3) := by decide +kernel
theorem dX12_breaks_183 : decode cX12_breaks 183 = .ok (.iload_n 1, 1) := by decide +kernel
theorem dX12_breaks_184 : decode cX12_breaks 184 = .ok (.iaload, 1) := by decide +kernel
theorem dX12_breaks_185 : decode cX12_breaks 185 = .ok (.i2l, 1) := by decide +kernel
theorem dX12_breaks_186 : decode cX12_breaks 186 = .ok (.lcmp, 1) := by decide +kernel
theorem dX12_breaks_187 : decode cX12_breaks 187 = .ok (.ifCond .le 8, 3) := by decide +kernel
theorem dX12_breaks_190 : decode cX12_breaks 190 = .ok (.bipush 6, 2) := by decide +kernel
theorem dX12_breaks_192 : decode cX12_breaks 192 = .ok (.goto 4, 3) := by decide +kernel
theorem dX12_breaks_195 : decode cX12_breaks 195 = .ok (.iconst 0, 1) := by decide +kernel
theorem dX12_breaks_196 : decode cX12_breaks 196 = .ok (.ireturn, 1) := by decide +kernel
theorem dX12_check_0 : decode cX12_check 0 = .ok (.aload_n 0, 1) := by decide +kernel
theorem dX12_check_1 : decode cX12_check 1 = .ok (.getfield 13, 3) := by decide +kernel
theorem dX12_check_4 : decode cX12_check 4 = .ok (.istore_n 1, 1) := by decide +kernel
theorem dX12_check_5 : decode cX12_check 5 = .ok (.aload_n 0, 1) := by decide +kernel
theorem dX12_check_6 : decode cX12_check 6 = .ok (.iconst 0, 1) := by decide +kernel
theorem dX12_check_7 : decode cX12_check 7 = .ok (.putfield 13, 3) := by decide +kernel
theorem dX12_check_10 : decode cX12_check 10 = .ok (.aload_n 0, 1) := by decide +kernel
theorem dX12_check_11 : decode cX12_check 11 = .ok (.iconst (-1), 1) := by decide +kernel
theorem dX12_check_12 : decode cX12_check 12 = .ok (.putfield 189, 3) := by decide +kernel
theorem dX12_check_15 : decode cX12_check 15 = .ok (.aload_n 0, 1) := by decide +kernel
theorem dX12_check_16 : decode cX12_check 16 = .ok (.iconst (-1), 1) := by decide +kernel
theorem dX12_check_17 : decode cX12_check 17 = .ok (.putfield 192, 3) := by decide +kernel
theorem dX12_check_20 : decode cX12_check 20 = .ok (.aload_n 0, 1) := by decide +kernel
theorem dX12_check_21 : decode cX12_check 21 = .ok (.getfield 62, 3) := by decide +kernel
theorem dX12_check_24 : decode cX12_check 24 = .ok (.iconst 0, 1) := by decide +kernel
theorem dX12_check_25 : decode cX12_check 25 = .ok (.iaload, 1) := by decide +kernel
theorem dX12_check_26 : decode cX12_check 26 = .ok (.ifCond .eq 16, 3) := by decide +kernel
theorem dX12_check_29 : decode cX12_check 29 = .ok (.iload_n 1, 1) := by decide +kernel
theorem dX12_check_30 : decode cX12_check 30 = .ok (.bipush 25, 2) := by decide +kernel
theorem dX12_check_32 : decode cX12_check 32 = .ok (.aload_n 0, 1) := by decide +kernel
theorem dX12_check_33 : decode cX12_check 33 = .ok (.getfield 62, 3) := by decide +kernel
theorem dX12_check_36 : decode cX12_check 36 = .ok (.iconst 0, 1) := by decide +kernel
theorem dX12_check_37 : decode cX12_check 37 = .ok (.iaload, 1) := by decide +kernel
theorem dX12_check_38 : decode cX12_check 38 = .ok (.imul, 1) := by decide +kernel
theorem dX12_check_39 : decode cX12_check 39 = .ok (.if_icmp .eq 9, 3) := by decide +kernel
theorem dX12_check_42 : decode cX12_check 42 = .ok (.aload_n 0, 1) := by decide +kernel
theorem dX12_check_43 : decode cX12_check 43 = .ok (.iconst 3, 1) := by decide +kernel
theorem dX12_check_44 : decode cX12_check 44 = .ok (.invokevirtual 224, 3) := by decide +kernel
theorem dX12_check_47 : decode cX12_check 47 = .ok (.ireturn, 1) := by decide +kernel
theorem dX12_check_48 : decode cX12_check 48 = .ok (.aload_n 0, 1) := by decide +kernel
theorem dX12_check_49 : decode cX12_check 49 = .ok (.iconst (-1), 1) := by decide +kernel
theorem dX12_check_50 : decode cX12_check 50 = .ok (.putfield 112, 3) := by decide +kernel
theorem dX12_check_53 : decode cX12_check 53 = .ok (.iconst 0, 1) := by decide +kernel
theorem dX12_check_54 : decode cX12_check 54 = .ok (.istore_n 2, 1) := by decide +kernel
theorem dX12_check_55 : decode cX12_check 55 = .ok (.iload_n 2, 1) := by decide +kernel
theorem dX12_check_56 : decode cX12_check 56 = .ok (.aload_n 0, 1) := by decide +kernel
theorem dX12_check_57 : decode cX12_check 57 = .ok (.getfield 62, 3) := by decide +kernel
theorem dX12_check_60 : decode cX12_check 60 = .ok (.iconst 0, 1) := by decide +kernel
theorem dX12_check_61 : decode cX12_check 61 = .ok (.iaload, 1) := by decide +kernel
theorem dX12_check_62 : decode cX12_check 62 = .ok (.if_icmp .ge 74, 3) := by decide +kernel
theorem dX12_check_65 : decode cX12_check 65 = .ok (.aload_n 0, 1) := by decide +kernel
theorem dX12_check_66 : decode cX12_check 66 = .ok (.getfield 195, 3) := by decide +kernel
theorem dX12_check_69 : decode cX12_check 69 = .ok (.iload_n 2, 1) := by decide +kernel
theorem dX12_check_70 : decode cX12_check 70 = .ok (.aload_n 0, 1) := by decide +kernel
theorem dX12_check_71 : decode cX12_check 71 = .ok (.getfield 7, 3) := by decide +kernel
theorem dX12_check_74 : decode cX12_check 74 = .ok (.bipush 25, 2) := by decide +kernel
theorem dX12_check_76 : decode cX12_check 76 = .ok (.iload_n 2, 1) := by decide +kernel
theorem dX12_check_77 : decode cX12_check 77 = .ok (.imul, 1) := by decide +kernel
theorem dX12_check_78 : decode cX12_check 78 = .ok (.iaload, 1) := by decide +kernel
theorem dX12_check_79 : decode cX12_check 79 = .ok (.iastore, 1) := by decide +kernel
theorem dX12_check_80 : decode cX12_check 80 = .ok (.aload_n 0, 1) := by decide +kernel
theorem dX12_check_81 : decode cX12_check 81 = .ok (.getfield 198, 3) := by decide +kernel
theorem dX12_check_84 : decode cX12_check 84 = .ok (.iload_n 2, 1) := by decide +kernel
theorem dX12_check_85 : decode cX12_check 85 = .ok (.aload_n 0, 1) := by decide +kernel
theorem dX12_check_86 : decode cX12_check 86 = .ok (.bipush 25, 2) := by decide +kernel
theorem dX12_check_88 : decode cX12_check 88 = .ok (.iload_n 2, 1) := by decide +kernel
theorem dX12_check_89 : decode cX12_check 89 = .ok (.imul, 1) := by decide +kernel
theorem dX12_check_90 : decode cX12_check 90 = .ok (.iconst 1, 1) := by decide +kernel
theorem dX12_check_91 : decode cX12_check 91 = .ok (.iadd, 1) := by decide +kernel
theorem dX12_check_92 : decode cX12_check 92 = .ok (.invokevirtual 521, 3) := by decide +kernel
theorem dX12_check_95 : decode cX12_check 95 = .ok (.lastore, 1) := by decide +kernel
theorem dX12_check_96 : decode cX12_check 96 = .ok (.aload_n 0, 1) := by decide +kernel
theorem dX12_check_97 : decode cX12_check 97 = .ok (.getfield 201, 3) := by decide +kernel
theorem dX12_check_100 : decode cX12_check 100 = .ok (.iload_n 2, 1) := by decide +kernel
theorem dX12_check_101 : decode cX12_check 101 = .ok (.aload_n 0, 1) := by decide +kernel
theorem dX12_check_102 : decode cX12_check 102 = .ok (.bipush 25, 2) := by decide +kernel
theorem dX12_check_104 : decode cX12_check 104 = .ok (.iload_n 2, 1) := by decide +kernel
theorem dX12_check_105 : decode cX12_check 105 = .ok (.imul, 1) := by decide +kernel
theorem dX12_check_106 : decode cX12_check 106 = .ok (.bipush 9, 2) := by decide +kernel
theorem dX12_check_108 : decode cX12_check 108 = .ok (.iadd, 1) := by decide +kernel
theorem dX12_check_109 : decode cX12_check 109 = .ok (.invokevirtual 521, 3) := by decide +kernel
theorem dX12_check_112 : decode cX12_check 112 = .ok (.lastore, 1) := by decide +kernel
theorem dX12_check_113 : decode cX12_check 113 = .ok (.aload_n 0, 1) := by decide +kernel
theorem dX12_check_114 : decode cX12_check 114 = .ok (.getfield 204, 3) := by decide +kernel
theorem dX12_check_117 : decode cX12_check 117 = .ok (.iload_n 2, 1) := by decide +kernel
theorem dX12_check_118 : decode cX12_check 118 = .ok (.aload_n 0, 1) := by decide +kernel
theorem dX12_check_119 : decode cX12_check 119 = .ok (.bipush 25, 2) := by decide +kernel
theorem dX12_check_121 : decode cX12_check 121 = .ok (.iload_n 2, 1) := by decide +kernel
theorem dX12_check_122 : decode cX12_check 122 = .ok (.imul, 1) := by decide +kernel
theorem dX12_check_123 : decode cX12_check 123 = .ok (.bipush 17, 2) := by decide +kernel
theorem dX12_check_125 : decode cX12_check 125 = .ok (.iadd, 1) := by decide +kernel
theorem dX12_check_126 : decode cX12_check 126 = .ok (.invokevirtual 521, 3) := by decide +kernel
theorem dX12_check_129 : decode cX12_check 129 = .ok (.lastore, 1) := by decide +kernel
theorem dX12_check_130 : decode cX12_check 130 = .ok (.iinc 2 1, 3) := by decide +kernel
theorem dX12_check_133 : decode cX12_check 133 = .ok (.goto (-78), 3) := by decide +kernel
theorem dX12_check_136 : decode cX12_check 136 = .ok (.iconst 0, 1) := by decide +kernel
theorem dX12_check_137 : decode cX12_check 137 = .ok (.istore_n 2, 1) := by decide +kernel
theorem dX12_check_138 : decode cX12_check 138 = .ok (.iload_n 2, 1) := by decide +kernel
theorem dX12_check_139 : decode cX12_check 139 = .ok (.aload_n 0, 1) := by decide +kernel
theorem dX12_check_140 : decode cX12_check 140 = .ok (.getfield 62, 3) := by decide +kernel
theorem dX12_check_143 : decode cX12_check 143 = .ok (.iconst 0, 1) := by decide +kernel
theorem dX12_check_144 : decode cX12_check 144 = .ok (.iaload, 1) := by decide +kernel
theorem dX12_check_145 : decode cX12_check 145 = .ok (.if_icmp .ge 38, 3) := by decide +kernel
theorem dX12_check_148 : decode cX12_check 148 = .ok (.aload_n 0, 1) := by decide +kernel
theorem dX12_check_149 : decode cX12_check 149 = .ok (.iload_n 2, 1) := by decide +kernel
theorem dX12_check_150 : decode cX12_check 150 = .ok (.invokevirtual 524, 3) := by decide +kernel
theorem dX12_check_153 : decode cX12_check 153 = .ok (.istore_n 3, 1) := by decide +kernel
theorem dX12_check_154 : decode cX12_check 154 = .ok (.iload_n 3, 1) := by decide +kernel
theorem dX12_check_155 : decode cX12_check 155 = .ok (.ifCond .ne 6, 3) := by decide +kernel
theorem dX12_check_158 : decode cX12_check 158 = .ok (.goto 19, 3) := by decide +kernel
theorem dX12_check_161 : decode cX12_check 161 = .ok (.aload_n 0, 1) := by decide +kernel
theorem dX12_check_162 : decode cX12_check 162 = .ok (.iload_n 2, 1) := by decide +kernel
theorem dX12_check_163 : decode cX12_check 163 = .ok (.putfield 189, 3) := by decide +kernel
theorem dX12_check_166 : decode cX12_check 166 = .ok (.aload_n 0, 1) := by decide +kernel
theorem dX12_check_167 : decode cX12_check 167 = .ok (.iload_n 3, 1) := by decide +kernel
theorem dX12_check_168 : decode cX12_check 168 = .ok (.putfield 192, 3) := by decide +kernel
theorem dX12_check_171 : decode cX12_check 171 = .ok (.aload_n 0, 1) := by decide +kernel
theorem dX12_check_172 : decode cX12_check 172 = .ok (.iconst 3, 1) := by decide +kernel
theorem dX12_check_173 : decode cX12_check 173 = .ok (.invokevirtual 224, 3) := by decide +kernel
theorem dX12_check_176 : decode cX12_check 176 = .ok (.ireturn, 1) := by decide +kernel
theorem dX12_check_177 : decode cX12_check 177 = .ok (.iinc 2 1, 3) := by decide +kernel
theorem dX12_check_180 : decode cX12_check 180 = .ok (.goto (-42), 3) := by decide +kernel
theorem dX12_check_183 : decode cX12_check 183 = .ok (.aload_n 0, 1) := by decide +kernel
theorem dX12_check_184 : decode cX12_check 184 = .ok (.bipush (-2), 2) := by decide +kernel
theorem dX12_check_186 : decode cX12_check 186 = .ok (.putfield 189, 3) := by decide +kernel
theorem dX12_check_189 : decode cX12_check 189 = .ok (.aload_n 0, 1) := by decide +kernel
theorem dX12_check_190 : decode cX12_check 190 = .ok (.iconst 0, 1) := by decide +kernel
theorem dX12_check_191 : decode cX12_check 191 = .ok (.putfield 192, 3) := by decide +kernel
theorem dX12_check_194 : decode cX12_check 194 = .ok (.iconst 1, 1) := by decide +kernel
theorem dX12_check_195 : decode cX12_check 195 = .ok (.ireturn, 1) := by decide +kernel
theorem dX12_broken_0 : decode cX12_broken 0 = .ok (.iload_n 1, 1) := by decide +kernel
theorem dX12_broken_1 : decode cX12_broken 1 = .ok (.ifCond .ne 10, 3) := by decide +kernel
theorem dX12_broken_4 : decode cX12_broken 4 = .ok (.aload_n 0, 1) := by decide +kernel
theorem dX12_broken_5 : decode cX12_broken 5 = .ok (.getfield 189, 3) := by decide +kernel
theorem dX12_broken_8 : decode cX12_broken 8 = .ok (.goto 16, 3) := by decide +kernel
theorem dX12_broken_11 : decode cX12_broken 11 = .ok (.iload_n 1, 1) := by decide +kernel
