theorem dX5_readValue_61 : decode cX5_readValue 61 = .ok (.getfield 64, 3) := by decide +kernel
theorem dX5_readValue_64 : decode cX5_readValue 64 = .ok (.invokevirtual 53, 3) := by decide +kernel
theorem dX5_readValue_67 : decode cX5_readValue 67 = .ok (.ireturn, 1) := by decide +kernel
theorem dX5_readValue_68 : decode cX5_readValue 68 = .ok (.iload 5, 2) := by decide +kernel
theorem dX5_readValue_70 : decode cX5_readValue 70 = .ok (.ifCond .eq 14, 3) := by decide +kernel
theorem dX5_readValue_73 : decode cX5_readValue 73 = .ok (.aload_n 0, 1) := by decide +kernel
theorem dX5_readValue_74 : decode cX5_readValue 74 = .ok (.getfield 12, 3) := by decide +kernel
theorem dX5_readValue_77 : decode cX5_readValue 77 = .ok (.getfield 138, 3) := by decide +kernel
theorem dX5_readValue_80 : decode cX5_readValue 80 = .ok (.ineg, 1) := by decide +kernel
theorem dX5_readValue_81 : decode cX5_readValue 81 = .ok (.goto 10, 3) := by decide +kernel
theorem dX5_readValue_84 : decode cX5_readValue 84 = .ok (.aload_n 0, 1) := by decide +kernel
theorem dX5_readValue_85 : decode cX5_readValue 85 = .ok (.getfield 12, 3) := by decide +kernel
theorem dX5_readValue_88 : decode cX5_readValue 88 = .ok (.getfield 138, 3) := by decide +kernel
theorem dX5_readValue_91 : decode cX5_readValue 91 = .ok (.istore 6, 2) := by decide +kernel
theorem dX5_readValue_93 : decode cX5_readValue 93 = .ok (.iload 6, 2) := by decide +kernel
theorem dX5_readValue_95 : decode cX5_readValue 95 = .ok (.iload_n 2, 1) := by decide +kernel
theorem dX5_readValue_96 : decode cX5_readValue 96 = .ok (.if_icmp .lt 9, 3) := by decide +kernel
theorem dX5_readValue_99 : decode cX5_readValue 99 = .ok (.iload 6, 2) := by decide +kernel
theorem dX5_readValue_101 : decode cX5_readValue 101 = .ok (.iload_n 3, 1) := by decide +kernel
theorem dX5_readValue_102 : decode cX5_readValue 102 = .ok (.if_icmp .le 11, 3) := by decide +kernel
theorem dX5_readValue_105 : decode cX5_readValue 105 = .ok (.aload_n 0, 1) := by decide +kernel
theorem dX5_readValue_106 : decode cX5_readValue 106 = .ok (.iconst 2, 1) := by decide +kernel
theorem dX5_readValue_107 : decode cX5_readValue 107 = .ok (.iload 4, 2) := by decide +kernel
theorem dX5_readValue_109 : decode cX5_readValue 109 = .ok (.invokevirtual 53, 3) := by decide +kernel
theorem dX5_readValue_112 : decode cX5_readValue 112 = .ok (.ireturn, 1) := by decide +kernel
theorem dX5_readValue_113 : decode cX5_readValue 113 = .ok (.aload_n 0, 1) := by decide +kernel
theorem dX5_readValue_114 : decode cX5_readValue 114 = .ok (.iload 6, 2) := by decide +kernel
theorem dX5_readValue_116 : decode cX5_readValue 116 = .ok (.putfield 102, 3) := by decide +kernel
theorem dX5_readValue_119 : decode cX5_readValue 119 = .ok (.aload_n 0, 1) := by decide +kernel
theorem dX5_readValue_120 : decode cX5_readValue 120 = .ok (.getfield 12, 3) := by decide +kernel
theorem dX5_readValue_123 : decode cX5_readValue 123 = .ok (.invokevirtual 70, 3) := by decide +kernel
theorem dX5_readValue_126 : decode cX5_readValue 126 = .ok (.iconst 1, 1) := by decide +kernel
theorem dX5_readValue_127 : decode cX5_readValue 127 = .ok (.ireturn, 1) := by decide +kernel
theorem dX5_readNewName_0 : decode cX5_readNewName 0 = .ok (.aload_n 0, 1) := by decide +kernel
theorem dX5_readNewName_1 : decode cX5_readNewName 1 = .ok (.getfield 12, 3) := by decide +kernel
theorem dX5_readNewName_4 : decode cX5_readNewName 4 = .ok (.invokevirtual 167, 3) := by decide +kernel
theorem dX5_readNewName_7 : decode cX5_readNewName 7 = .ok (.ifCond .ne 16, 3) := by decide +kernel
theorem dX5_readNewName_10 : decode cX5_readNewName 10 = .ok (.aload_n 0, 1) := by decide +kernel
theorem dX5_readNewName_11 : decode cX5_readNewName 11 = .ok (.iconst 1, 1) := by decide +kernel
theorem dX5_readNewName_12 : decode cX5_readNewName 12 = .ok (.aload_n 0, 1) := by decide +kernel
theorem dX5_readNewName_13 : decode cX5_readNewName 13 = .ok (.getfield 12, 3) := by decide +kernel
theorem dX5_readNewName_16 : decode cX5_readNewName 16 = .ok (.getfield 64, 3) := by decide +kernel
theorem dX5_readNewName_19 : decode cX5_readNewName 19 = .ok (.invokevirtual 53, 3) := by decide +kernel
theorem dX5_readNewName_22 : decode cX5_readNewName 22 = .ok (.ireturn, 1) := by decide +kernel
theorem dX5_readNewName_23 : decode cX5_readNewName 23 = .ok (.aload_n 0, 1) := by decide +kernel
theorem dX5_readNewName_24 : decode cX5_readNewName 24 = .ok (.getfield 12, 3) := by decide +kernel
theorem dX5_readNewName_27 : decode cX5_readNewName 27 = .ok (.getfield 138, 3) := by decide +kernel
theorem dX5_readNewName_30 : decode cX5_readNewName 30 = .ok (.istore_n 2, 1) := by decide +kernel
theorem dX5_readNewName_31 : decode cX5_readNewName 31 = .ok (.aload_n 1, 1) := by decide +kernel
theorem dX5_readNewName_32 : decode cX5_readNewName 32 = .ok (.iload_n 2, 1) := by decide +kernel
theorem dX5_readNewName_33 : decode cX5_readNewName 33 = .ok (.invokevirtual 155, 3) := by decide +kernel
theorem dX5_readNewName_36 : decode cX5_readNewName 36 = .ok (.iconst (-1), 1) := by decide +kernel
theorem dX5_readNewName_37 : decode cX5_readNewName 37 = .ok (.if_icmp .ne 15, 3) := by decide +kernel
theorem dX5_readNewName_40 : decode cX5_readNewName 40 = .ok (.aload_n 1, 1) := by decide +kernel
theorem dX5_readNewName_41 : decode cX5_readNewName 41 = .ok (.getfield 44, 3) := by decide +kernel
theorem dX5_readNewName_44 : decode cX5_readNewName 44 = .ok (.iload_n 2, 1) := by decide +kernel
theorem dX5_readNewName_45 : decode cX5_readNewName 45 = .ok (.invokevirtual 141, 3) := by decide +kernel
theorem dX5_readNewName_48 : decode cX5_readNewName 48 = .ok (.iconst (-1), 1) := by decide +kernel
theorem dX5_readNewName_49 : decode cX5_readNewName 49 = .ok (.if_icmp .eq 16, 3) := by decide +kernel
theorem dX5_readNewName_52 : decode cX5_readNewName 52 = .ok (.aload_n 0, 1) := by decide +kernel
theorem dX5_readNewName_53 : decode cX5_readNewName 53 = .ok (.iconst 3, 1) := by decide +kernel
theorem dX5_readNewName_54 : decode cX5_readNewName 54 = .ok (.aload_n 0, 1) := by decide +kernel
theorem dX5_readNewName_55 : decode cX5_readNewName 55 = .ok (.getfield 12, 3) := by decide +kernel
theorem dX5_readNewName_58 : decode cX5_readNewName 58 = .ok (.getfield 64, 3) := by decide +kernel
theorem dX5_readNewName_61 : decode cX5_readNewName 61 = .ok (.invokevirtual 53, 3) := by decide +kernel
theorem dX5_readNewName_64 : decode cX5_readNewName 64 = .ok (.ireturn, 1) := by decide +kernel
theorem dX5_readNewName_65 : decode cX5_readNewName 65 = .ok (.aload_n 0, 1) := by decide +kernel
theorem dX5_readNewName_66 : decode cX5_readNewName 66 = .ok (.iload_n 2, 1) := by decide +kernel
theorem dX5_readNewName_67 : decode cX5_readNewName 67 = .ok (.putfield 102, 3) := by decide +kernel
theorem dX5_readNewName_70 : decode cX5_readNewName 70 = .ok (.aload_n 0, 1) := by decide +kernel
theorem dX5_readNewName_71 : decode cX5_readNewName 71 = .ok (.getfield 12, 3) := by decide +kernel
theorem dX5_readNewName_74 : decode cX5_readNewName 74 = .ok (.invokevirtual 70, 3) := by decide +kernel
theorem dX5_readNewName_77 : decode cX5_readNewName 77 = .ok (.iconst 1, 1) := by decide +kernel
theorem dX5_readNewName_78 : decode cX5_readNewName 78 = .ok (.ireturn, 1) := by decide +kernel
theorem dX5_readKnown_0 : decode cX5_readKnown 0 = .ok (.aload_n 0, 1) := by decide +kernel
theorem dX5_readKnown_1 : decode cX5_readKnown 1 = .ok (.getfield 12, 3) := by decide +kernel
theorem dX5_readKnown_4 : decode cX5_readKnown 4 = .ok (.invokevirtual 167, 3) := by decide +kernel
theorem dX5_readKnown_7 : decode cX5_readKnown 7 = .ok (.ifCond .ne 16, 3) := by decide +kernel
theorem dX5_readKnown_10 : decode cX5_readKnown 10 = .ok (.aload_n 0, 1) := by decide +kernel
theorem dX5_readKnown_11 : decode cX5_readKnown 11 = .ok (.iconst 1, 1) := by decide +kernel
theorem dX5_readKnown_12 : decode cX5_readKnown 12 = .ok (.aload_n 0, 1) := by decide +kernel
theorem dX5_readKnown_13 : decode cX5_readKnown 13 = .ok (.getfield 12, 3) := by decide +kernel
theorem dX5_readKnown_16 : decode cX5_readKnown 16 = .ok (.getfield 64, 3) := by decide +kernel
theorem dX5_readKnown_19 : decode cX5_readKnown 19 = .ok (.invokevirtual 53, 3) := by decide +kernel
theorem dX5_readKnown_22 : decode cX5_readKnown 22 = .ok (.ireturn, 1) := by decide +kernel
theorem dX5_readKnown_23 : decode cX5_readKnown 23 = .ok (.iload_n 1, 1) := by decide +kernel
theorem dX5_readKnown_24 : decode cX5_readKnown 24 = .ok (.iconst (-1), 1) := by decide +kernel
theorem dX5_readKnown_25 : decode cX5_readKnown 25 = .ok (.if_icmp .ne 16, 3) := by decide +kernel
theorem dX5_readKnown_28 : decode cX5_readKnown 28 = .ok (.aload_n 0, 1) := by decide +kernel
theorem dX5_readKnown_29 : decode cX5_readKnown 29 = .ok (.iconst 3, 1) := by decide +kernel
theorem dX5_readKnown_30 : decode cX5_readKnown 30 = .ok (.aload_n 0, 1) := by decide +kernel
theorem dX5_readKnown_31 : decode cX5_readKnown 31 = .ok (.getfield 12, 3) := by decide +kernel
theorem dX5_readKnown_34 : decode cX5_readKnown 34 = .ok (.getfield 64, 3) := by decide +kernel
theorem dX5_readKnown_37 : decode cX5_readKnown 37 = .ok (.invokevirtual 53, 3) := by decide +kernel
theorem dX5_readKnown_40 : decode cX5_readKnown 40 = .ok (.ireturn, 1) := by decide +kernel
theorem dX5_readKnown_41 : decode cX5_readKnown 41 = .ok (.aload_n 0, 1) := by decide +kernel
theorem dX5_readKnown_42 : decode cX5_readKnown 42 = .ok (.iload_n 1, 1) := by decide +kernel
theorem dX5_readKnown_43 : decode cX5_readKnown 43 = .ok (.putfield 102, 3) := by decide +kernel
theorem dX5_readKnown_46 : decode cX5_readKnown 46 = .ok (.aload_n 0, 1) := by decide +kernel
theorem dX5_readKnown_47 : decode cX5_readKnown 47 = .ok (.getfield 12, 3) := by decide +kernel
theorem dX5_readKnown_50 : decode cX5_readKnown 50 = .ok (.invokevirtual 70, 3) := by decide +kernel
theorem dX5_readKnown_53 : decode cX5_readKnown 53 = .ok (.iconst 1, 1) := by decide +kernel
theorem dX5_readKnown_54 : decode cX5_readKnown 54 = .ok (.ireturn, 1) := by decide +kernel
theorem dX6_init_0 : decode cX6_init 0 = .ok (.aload_n 0, 1) := by decide +kernel
theorem dX6_init_1 : decode cX6_init 1 = .ok (.invokespecial 3, 3) := by decide +kernel
theorem dX6_init_4 : decode cX6_init 4 = .ok (.aload_n 0, 1) := by decide +kernel
theorem dX6_init_5 : decode cX6_init 5 = .ok (.bipush 14, 2) := by decide +kernel
theorem dX6_init_7 : decode cX6_init 7 = .ok (.newarray .long, 2) := by decide +kernel
theorem dX6_init_9 : decode cX6_init 9 = .ok (.putfield 9, 3) := by decide +kernel
theorem dX6_init_12 : decode cX6_init 12 = .ok (.aload_n 0, 1) := by decide +kernel
theorem dX6_init_13 : decode cX6_init 13 = .ok (.bipush 14, 2) := by decide +kernel
theorem dX6_init_15 : decode cX6_init 15 = .ok (.newarray .long, 2) := by decide +kernel
theorem dX6_init_17 : decode cX6_init 17 = .ok (.putfield 15, 3) := by decide +kernel
theorem dX6_init_20 : decode cX6_init 20 = .ok (.aload_n 0, 1) := by decide +kernel
theorem dX6_init_21 : decode cX6_init 21 = .ok (.bipush 14, 2) := by decide +kernel
theorem dX6_init_23 : decode cX6_init 23 = .ok (.newarray .boolean, 2) := by decide +kernel
theorem dX6_init_25 : decode cX6_init 25 = .ok (.putfield 18, 3) := by decide +kernel
theorem dX6_init_28 : decode cX6_init 28 = .ok (.return_, 1) := by decide +kernel
theorem dX6_fill_0 : decode cX6_fill 0 = .ok (.iconst 0, 1) := by decide +kernel
theorem dX6_fill_1 : decode cX6_fill 1 = .ok (.istore 4, 2) := by decide +kernel
theorem dX6_fill_3 : decode cX6_fill 3 = .ok (.iload 4, 2) := by decide +kernel
theorem dX6_fill_5 : decode cX6_fill 5 = .ok (.aload_n 1, 1) := by decide +kernel
theorem dX6_fill_6 : decode cX6_fill 6 = .ok (.getfield 22, 3) := by decide +kernel
theorem dX6_fill_9 : decode cX6_fill 9 = .ok (.if_icmp .ge 116, 3) := by decide +kernel
theorem dX6_fill_12 : decode cX6_fill 12 = .ok (.iload 4, 2) := by decide +kernel
theorem dX6_fill_14 : decode cX6_fill 14 = .ok (.iload_n 2, 1) := by decide +kernel
theorem dX6_fill_15 : decode cX6_fill 15 = .ok (.if_icmp .ne 8, 3) := by decide +kernel
theorem dX6_fill_18 : decode cX6_fill 18 = .ok (.iload_n 3, 1) := by decide +kernel
theorem dX6_fill_19 : decode cX6_fill 19 = .ok (.i2l, 1) := by decide +kernel
theorem dX6_fill_20 : decode cX6_fill 20 = .ok (.goto 4, 3) := by decide +kernel
theorem dX6_fill_23 : decode cX6_fill 23 = .ok (.lconst 0, 1) := by decide +kernel
theorem dX6_fill_24 : decode cX6_fill 24 = .ok (.lstore 5, 2) := by decide +kernel
theorem dX6_fill_26 : decode cX6_fill 26 = .ok (.aload_n 0, 1) := by decide +kernel
theorem dX6_fill_27 : decode cX6_fill 27 = .ok (.getfield 9, 3) := by decide +kernel
theorem dX6_fill_30 : decode cX6_fill 30 = .ok (.iload 4, 2) := by decide +kernel
theorem dX6_fill_32 : decode cX6_fill 32 = .ok (.aload_n 0, 1) := by decide +kernel
theorem dX6_fill_33 : decode cX6_fill 33 = .ok (.aload_n 1, 1) := by decide +kernel
theorem dX6_fill_34 : decode cX6_fill 34 = .ok (.iload 4, 2) := by decide +kernel
theorem dX6_fill_36 : decode cX6_fill 36 = .ok (.invokevirtual 28, 3) := by decide +kernel
theorem dX6_fill_39 : decode cX6_fill 39 = .ok (.lload 5, 2) := by decide +kernel
theorem dX6_fill_41 : decode cX6_fill 41 = .ok (.lsub, 1) := by decide +kernel
theorem dX6_fill_42 : decode cX6_fill 42 = .ok (.invokestatic 32, 3) := by decide +kernel
theorem dX6_fill_45 : decode cX6_fill 45 = .ok (.lastore, 1) := by decide +kernel
theorem dX6_fill_46 : decode cX6_fill 46 = .ok (.aload_n 0, 1) := by decide +kernel
theorem dX6_fill_47 : decode cX6_fill 47 = .ok (.getfield 15, 3) := by decide +kernel
theorem dX6_fill_50 : decode cX6_fill 50 = .ok (.iload 4, 2) := by decide +kernel
theorem dX6_fill_52 : decode cX6_fill 52 = .ok (.aload_n 0, 1) := by decide +kernel
theorem dX6_fill_53 : decode cX6_fill 53 = .ok (.aload_n 1, 1) := by decide +kernel
theorem dX6_fill_54 : decode cX6_fill 54 = .ok (.iload 4, 2) := by decide +kernel
theorem dX6_fill_56 : decode cX6_fill 56 = .ok (.invokevirtual 36, 3) := by decide +kernel
theorem dX6_fill_59 : decode cX6_fill 59 = .ok (.lload 5, 2) := by decide +kernel
theorem dX6_fill_61 : decode cX6_fill 61 = .ok (.ladd, 1) := by decide +kernel
theorem dX6_fill_62 : decode cX6_fill 62 = .ok (.invokestatic 32, 3) := by decide +kernel
theorem dX6_fill_65 : decode cX6_fill 65 = .ok (.lastore, 1) := by decide +kernel
theorem dX6_fill_66 : decode cX6_fill 66 = .ok (.aload_n 0, 1) := by decide +kernel
theorem dX6_fill_67 : decode cX6_fill 67 = .ok (.getfield 18, 3) := by decide +kernel
theorem dX6_fill_70 : decode cX6_fill 70 = .ok (.iload 4, 2) := by decide +kernel
theorem dX6_fill_72 : decode cX6_fill 72 = .ok (.aload_n 0, 1) := by decide +kernel
theorem dX6_fill_73 : decode cX6_fill 73 = .ok (.iload 4, 2) := by decide +kernel
theorem dX6_fill_75 : decode cX6_fill 75 = .ok (.invokevirtual 39, 3) := by decide +kernel
theorem dX6_fill_78 : decode cX6_fill 78 = .ok (.ldc2_w 43, 3) := by decide +kernel
theorem dX6_fill_81 : decode cX6_fill 81 = .ok (.lcmp, 1) := by decide +kernel
theorem dX6_fill_82 : decode cX6_fill 82 = .ok (.ifCond .gt 31, 3) := by decide +kernel
theorem dX6_fill_85 : decode cX6_fill 85 = .ok (.aload_n 0, 1) := by decide +kernel
theorem dX6_fill_86 : decode cX6_fill 86 = .ok (.aload_n 1, 1) := by decide +kernel
theorem dX6_fill_87 : decode cX6_fill 87 = .ok (.iload 4, 2) := by decide +kernel
theorem dX6_fill_89 : decode cX6_fill 89 = .ok (.iconst 0, 1) := by decide +kernel
theorem dX6_fill_90 : decode cX6_fill 90 = .ok (.invokevirtual 45, 3) := by decide +kernel
theorem dX6_fill_93 : decode cX6_fill 93 = .ok (.invokevirtual 49, 3) := by decide +kernel
theorem dX6_fill_96 : decode cX6_fill 96 = .ok (.ifCond .ne 17, 3) := by decide +kernel
theorem dX6_fill_99 : decode cX6_fill 99 = .ok (.aload_n 0, 1) := by decide +kernel
theorem dX6_fill_100 : decode cX6_fill 100 = .ok (.aload_n 1, 1) := by decide +kernel
theorem dX6_fill_101 : decode cX6_fill 101 = .ok (.iload 4, 2) := by decide +kernel
theorem dX6_fill_103 : decode cX6_fill 103 = .ok (.iconst 1, 1) := by decide +kernel
theorem dX6_fill_104 : decode cX6_fill 104 = .ok (.invokevirtual 45, 3) := by decide +kernel
theorem dX6_fill_107 : decode cX6_fill 107 = .ok (.invokevirtual 49, 3) := by decide +kernel
theorem dX6_fill_110 : decode cX6_fill 110 = .ok (.ifCond .eq 7, 3) := by decide +kernel
theorem dX6_fill_113 : decode cX6_fill 113 = .ok (.iconst 1, 1) := by decide +kernel
theorem dX6_fill_114 : decode cX6_fill 114 = .ok (.goto 4, 3) := by decide +kernel
theorem dX6_fill_117 : decode cX6_fill 117 = .ok (.iconst 0, 1) := by decide +kernel
theorem dX6_fill_118 : decode cX6_fill 118 = .ok (.bastore, 1) := by decide +kernel
theorem dX6_fill_119 : decode cX6_fill 119 = .ok (.iinc 4 1, 3) := by decide +kernel
theorem dX6_fill_122 : decode cX6_fill 122 = .ok (.goto (-119), 3) := by decide +kernel
theorem dX6_fill_125 : decode cX6_fill 125 = .ok (.return_, 1) := by decide +kernel
theorem dX6_held_0 : decode cX6_held 0 = .ok (.ldc2_w 53, 3) := by decide +kernel
theorem dX6_held_3 : decode cX6_held 3 = .ok (.ldc2_w 55, 3) := by decide +kernel
theorem dX6_held_6 : decode cX6_held 6 = .ok (.lload_n 0, 1) := by decide +kernel
theorem dX6_held_7 : decode cX6_held 7 = .ok (.invokestatic 57, 3) := by decide +kernel
theorem dX6_held_10 : decode cX6_held 10 = .ok (.invokestatic 63, 3) := by decide +kernel
theorem dX6_held_13 : decode cX6_held 13 = .ok (.lreturn, 1) := by decide +kernel
theorem dX6_isWide_0 : decode cX6_isWide 0 = .ok (.iload_n 1, 1) := by decide +kernel
theorem dX6_isWide_1 : decode cX6_isWide 1 = .ok (.ifCond .lt 22, 3) := by decide +kernel
theorem dX6_isWide_4 : decode cX6_isWide 4 = .ok (.iload_n 1, 1) := by decide +kernel
theorem dX6_isWide_5 : decode cX6_isWide 5 = .ok (.bipush 14, 2) := by decide +kernel
theorem dX6_isWide_7 : decode cX6_isWide 7 = .ok (.if_icmp .ge 16, 3) := by decide +kernel
theorem dX6_isWide_10 : decode cX6_isWide 10 = .ok (.aload_n 0, 1) := by decide +kernel
theorem dX6_isWide_11 : decode cX6_isWide 11 = .ok (.getfield 18, 3) := by decide +kernel
theorem dX6_isWide_14 : decode cX6_isWide 14 = .ok (.iload_n 1, 1) := by decide +kernel
theorem dX6_isWide_15 : decode cX6_isWide 15 = .ok (.baload, 1) := by decide +kernel
theorem dX6_isWide_16 : decode cX6_isWide 16 = .ok (.ifCond .eq 7, 3) := by decide +kernel
theorem dX6_isWide_19 : decode cX6_isWide 19 = .ok (.iconst 1, 1) := by decide +kernel
theorem dX6_isWide_20 : decode cX6_isWide 20 = .ok (.goto 4, 3) := by decide +kernel
theorem dX6_isWide_23 : decode cX6_isWide 23 = .ok (.iconst 0, 1) := by decide +kernel
theorem dX6_isWide_24 : decode cX6_isWide 24 = .ok (.ireturn, 1) := by decide +kernel
theorem dX6_amountOf_0 : decode cX6_amountOf 0 = .ok (.aload_n 0, 1) := by decide +kernel
theorem dX6_amountOf_1 : decode cX6_amountOf 1 = .ok (.getfield 9, 3) := by decide +kernel
theorem dX6_amountOf_4 : decode cX6_amountOf 4 = .ok (.iload_n 1, 1) := by decide +kernel
theorem dX6_amountOf_5 : decode cX6_amountOf 5 = .ok (.laload, 1) := by decide +kernel
theorem dX6_amountOf_6 : decode cX6_amountOf 6 = .ok (.invokestatic 66, 3) := by decide +kernel
theorem dX6_amountOf_9 : decode cX6_amountOf 9 = .ok (.aload_n 0, 1) := by decide +kernel
theorem dX6_amountOf_10 : decode cX6_amountOf 10 = .ok (.getfield 15, 3) := by decide +kernel
theorem dX6_amountOf_13 : decode cX6_amountOf 13 = .ok (.iload_n 1, 1) := by decide +kernel
theorem dX6_amountOf_14 : decode cX6_amountOf 14 = .ok (.laload, 1) := by decide +kernel
theorem dX6_amountOf_15 : decode cX6_amountOf 15 = .ok (.invokestatic 66, 3) := by decide +kernel
theorem dX6_amountOf_18 : decode cX6_amountOf 18 = .ok (.invokestatic 63, 3) := by decide +kernel
theorem dX6_amountOf_21 : decode cX6_amountOf 21 = .ok (.lreturn, 1) := by decide +kernel
theorem dX6_amountOfWhat_0 : decode cX6_amountOfWhat 0 = .ok (.aload_n 1, 1) := by decide +kernel
theorem dX6_amountOfWhat_1 : decode cX6_amountOfWhat 1 = .ok (.iload_n 2, 1) := by decide +kernel
theorem dX6_amountOfWhat_2 : decode cX6_amountOfWhat 2 = .ok (.iload_n 3, 1) := by decide +kernel
theorem dX6_amountOfWhat_3 : decode cX6_amountOfWhat 3 = .ok (.invokevirtual 45, 3) := by decide +kernel
theorem dX6_amountOfWhat_6 : decode cX6_amountOfWhat 6 = .ok (.istore 4, 2) := by decide +kernel
theorem dX6_amountOfWhat_8 : decode cX6_amountOfWhat 8 = .ok (.iload 4, 2) := by decide +kernel
theorem dX6_amountOfWhat_10 : decode cX6_amountOfWhat 10 = .ok (.ifCond .lt 9, 3) := by decide +kernel
theorem dX6_amountOfWhat_13 : decode cX6_amountOfWhat 13 = .ok (.iload 4, 2) := by decide +kernel
theorem dX6_amountOfWhat_15 : decode cX6_amountOfWhat 15 = .ok (.iload_n 2, 1) := by decide +kernel
theorem dX6_amountOfWhat_16 : decode cX6_amountOfWhat 16 = .ok (.if_icmp .lt 13, 3) := by decide +kernel
theorem dX6_amountOfWhat_19 : decode cX6_amountOfWhat 19 = .ok (.aload_n 1, 1) := by decide +kernel
theorem dX6_amountOfWhat_20 : decode cX6_amountOfWhat 20 = .ok (.iload_n 2, 1) := by decide +kernel
theorem dX6_amountOfWhat_21 : decode cX6_amountOfWhat 21 = .ok (.iload_n 3, 1) := by decide +kernel
theorem dX6_amountOfWhat_22 : decode cX6_amountOfWhat 22 = .ok (.invokevirtual 69, 3) := by decide +kernel
theorem dX6_amountOfWhat_25 : decode cX6_amountOfWhat 25 = .ok (.invokestatic 66, 3) := by decide +kernel
theorem dX6_amountOfWhat_28 : decode cX6_amountOfWhat 28 = .ok (.lreturn, 1) := by decide +kernel
theorem dX6_amountOfWhat_29 : decode cX6_amountOfWhat 29 = .ok (.aload_n 0, 1) := by decide +kernel
theorem dX6_amountOfWhat_30 : decode cX6_amountOfWhat 30 = .ok (.getfield 9, 3) := by decide +kernel
theorem dX6_amountOfWhat_33 : decode cX6_amountOfWhat 33 = .ok (.iload 4, 2) := by decide +kernel
theorem dX6_amountOfWhat_35 : decode cX6_amountOfWhat 35 = .ok (.laload, 1) := by decide +kernel
theorem dX6_amountOfWhat_36 : decode cX6_amountOfWhat 36 = .ok (.invokestatic 66, 3) := by decide +kernel
theorem dX6_amountOfWhat_39 : decode cX6_amountOfWhat 39 = .ok (.aload_n 0, 1) := by decide +kernel
theorem dX6_amountOfWhat_40 : decode cX6_amountOfWhat 40 = .ok (.getfield 15, 3) := by decide +kernel
theorem dX6_amountOfWhat_43 : decode cX6_amountOfWhat 43 = .ok (.iload 4, 2) := by decide +kernel
theorem dX6_amountOfWhat_45 : decode cX6_amountOfWhat 45 = .ok (.laload, 1) := by decide +kernel
theorem dX6_amountOfWhat_46 : decode cX6_amountOfWhat 46 = .ok (.invokestatic 66, 3) := by decide +kernel
theorem dX6_amountOfWhat_49 : decode cX6_amountOfWhat 49 = .ok (.invokestatic 63, 3) := by decide +kernel
theorem dX6_amountOfWhat_52 : decode cX6_amountOfWhat 52 = .ok (.lreturn, 1) := by decide +kernel
theorem dX6_lowOf_0 : decode cX6_lowOf 0 = .ok (.aload_n 1, 1) := by decide +kernel
theorem dX6_lowOf_1 : decode cX6_lowOf 1 = .ok (.iload_n 2, 1) := by decide +kernel
theorem dX6_lowOf_2 : decode cX6_lowOf 2 = .ok (.iload_n 3, 1) := by decide +kernel
theorem dX6_lowOf_3 : decode cX6_lowOf 3 = .ok (.invokevirtual 45, 3) := by decide +kernel
theorem dX6_lowOf_6 : decode cX6_lowOf 6 = .ok (.istore 4, 2) := by decide +kernel
theorem dX6_lowOf_8 : decode cX6_lowOf 8 = .ok (.iload 4, 2) := by decide +kernel
theorem dX6_lowOf_10 : decode cX6_lowOf 10 = .ok (.ifCond .lt 19, 3) := by decide +kernel
theorem dX6_lowOf_13 : decode cX6_lowOf 13 = .ok (.iload 4, 2) := by decide +kernel
theorem dX6_lowOf_15 : decode cX6_lowOf 15 = .ok (.iload_n 2, 1) := by decide +kernel
theorem dX6_lowOf_16 : decode cX6_lowOf 16 = .ok (.if_icmp .ge 13, 3) := by decide +kernel
theorem dX6_lowOf_19 : decode cX6_lowOf 19 = .ok (.aload_n 0, 1) := by decide +kernel
theorem dX6_lowOf_20 : decode cX6_lowOf 20 = .ok (.getfield 9, 3) := by decide +kernel
theorem dX6_lowOf_23 : decode cX6_lowOf 23 = .ok (.iload 4, 2) := by decide +kernel
theorem dX6_lowOf_25 : decode cX6_lowOf 25 = .ok (.laload, 1) := by decide +kernel
theorem dX6_lowOf_26 : decode cX6_lowOf 26 = .ok (.goto 9, 3) := by decide +kernel
theorem dX6_lowOf_29 : decode cX6_lowOf 29 = .ok (.aload_n 1, 1) := by decide +kernel
theorem dX6_lowOf_30 : decode cX6_lowOf 30 = .ok (.iload_n 2, 1) := by decide +kernel
theorem dX6_lowOf_31 : decode cX6_lowOf 31 = .ok (.iload_n 3, 1) := by decide +kernel
theorem dX6_lowOf_32 : decode cX6_lowOf 32 = .ok (.invokevirtual 69, 3) := by decide +kernel
theorem dX6_lowOf_35 : decode cX6_lowOf 35 = .ok (.lreturn, 1) := by decide +kernel
theorem dX6_highOf_0 : decode cX6_highOf 0 = .ok (.aload_n 1, 1) := by decide +kernel
theorem dX6_highOf_1 : decode cX6_highOf 1 = .ok (.iload_n 2, 1) := by decide +kernel
theorem dX6_highOf_2 : decode cX6_highOf 2 = .ok (.iload_n 3, 1) := by decide +kernel
theorem dX6_highOf_3 : decode cX6_highOf 3 = .ok (.invokevirtual 45, 3) := by decide +kernel
theorem dX6_highOf_6 : decode cX6_highOf 6 = .ok (.istore 4, 2) := by decide +kernel
theorem dX6_highOf_8 : decode cX6_highOf 8 = .ok (.iload 4, 2) := by decide +kernel
theorem dX6_highOf_10 : decode cX6_highOf 10 = .ok (.ifCond .lt 19, 3) := by decide +kernel
theorem dX6_highOf_13 : decode cX6_highOf 13 = .ok (.iload 4, 2) := by decide +kernel
theorem dX6_highOf_15 : decode cX6_highOf 15 = .ok (.iload_n 2, 1) := by decide +kernel
theorem dX6_highOf_16 : decode cX6_highOf 16 = .ok (.if_icmp .ge 13, 3) := by decide +kernel
theorem dX6_highOf_19 : decode cX6_highOf 19 = .ok (.aload_n 0, 1) := by decide +kernel
theorem dX6_highOf_20 : decode cX6_highOf 20 = .ok (.getfield 15, 3) := by decide +kernel
theorem dX6_highOf_23 : decode cX6_highOf 23 = .ok (.iload 4, 2) := by decide +kernel
theorem dX6_highOf_25 : decode cX6_highOf 25 = .ok (.laload, 1) := by decide +kernel
theorem dX6_highOf_26 : decode cX6_highOf 26 = .ok (.goto 9, 3) := by decide +kernel
theorem dX6_highOf_29 : decode cX6_highOf 29 = .ok (.aload_n 1, 1) := by decide +kernel
theorem dX6_highOf_30 : decode cX6_highOf 30 = .ok (.iload_n 2, 1) := by decide +kernel
theorem dX6_highOf_31 : decode cX6_highOf 31 = .ok (.iload_n 3, 1) := by decide +kernel
theorem dX6_highOf_32 : decode cX6_highOf 32 = .ok (.invokevirtual 69, 3) := by decide +kernel
theorem dX6_highOf_35 : decode cX6_highOf 35 = .ok (.lreturn, 1) := by decide +kernel
theorem dX6_lowest_0 : decode cX6_lowest 0 = .ok (.aload_n 1, 1) := by decide +kernel
theorem dX6_lowest_1 : decode cX6_lowest 1 = .ok (.getfield 72, 3) := by decide +kernel
theorem dX6_lowest_4 : decode cX6_lowest 4 = .ok (.iload_n 2, 1) := by decide +kernel
theorem dX6_lowest_5 : decode cX6_lowest 5 = .ok (.iaload, 1) := by decide +kernel
theorem dX6_lowest_6 : decode cX6_lowest 6 = .ok (.istore_n 3, 1) := by decide +kernel
theorem dX6_lowest_7 : decode cX6_lowest 7 = .ok (.aload_n 0, 1) := by decide +kernel
theorem dX6_lowest_8 : decode cX6_lowest 8 = .ok (.aload_n 1, 1) := by decide +kernel
theorem dX6_lowest_9 : decode cX6_lowest 9 = .ok (.iload_n 2, 1) := by decide +kernel
theorem dX6_lowest_10 : decode cX6_lowest 10 = .ok (.iconst 0, 1) := by decide +kernel
theorem dX6_lowest_11 : decode cX6_lowest 11 = .ok (.invokevirtual 76, 3) := by decide +kernel
theorem dX6_lowest_14 : decode cX6_lowest 14 = .ok (.lstore 4, 2) := by decide +kernel
theorem dX6_lowest_16 : decode cX6_lowest 16 = .ok (.iload_n 3, 1) := by decide +kernel
theorem dX6_lowest_17 : decode cX6_lowest 17 = .ok (.ifCond .ne 6, 3) := by decide +kernel
theorem dX6_lowest_20 : decode cX6_lowest 20 = .ok (.lload 4, 2) := by decide +kernel
theorem dX6_lowest_22 : decode cX6_lowest 22 = .ok (.lreturn, 1) := by decide +kernel
theorem dX6_lowest_23 : decode cX6_lowest 23 = .ok (.iload_n 3, 1) := by decide +kernel
theorem dX6_lowest_24 : decode cX6_lowest 24 = .ok (.iconst 3, 1) := by decide +kernel
theorem dX6_lowest_25 : decode cX6_lowest 25 = .ok (.if_icmp .eq 37, 3) := by decide +kernel
theorem dX6_lowest_28 : decode cX6_lowest 28 = .ok (.iload_n 3, 1) := by decide +kernel
theorem dX6_lowest_29 : decode cX6_lowest 29 = .ok (.iconst 2, 1) := by decide +kernel
theorem dX6_lowest_30 : decode cX6_lowest 30 = .ok (.if_icmp .ne 13, 3) := by decide +kernel
theorem dX6_lowest_33 : decode cX6_lowest 33 = .ok (.aload_n 0, 1) := by decide +kernel
theorem dX6_lowest_34 : decode cX6_lowest 34 = .ok (.aload_n 1, 1) := by decide +kernel
theorem dX6_lowest_35 : decode cX6_lowest 35 = .ok (.iload_n 2, 1) := by decide +kernel
theorem dX6_lowest_36 : decode cX6_lowest 36 = .ok (.iconst 1, 1) := by decide +kernel
theorem dX6_lowest_37 : decode cX6_lowest 37 = .ok (.invokevirtual 80, 3) := by decide +kernel
theorem dX6_lowest_40 : decode cX6_lowest 40 = .ok (.goto 10, 3) := by decide +kernel
theorem dX6_lowest_43 : decode cX6_lowest 43 = .ok (.aload_n 0, 1) := by decide +kernel
theorem dX6_lowest_44 : decode cX6_lowest 44 = .ok (.aload_n 1, 1) := by decide +kernel
theorem dX6_lowest_45 : decode cX6_lowest 45 = .ok (.iload_n 2, 1) := by decide +kernel
theorem dX6_lowest_46 : decode cX6_lowest 46 = .ok (.iconst 1, 1) := by decide +kernel
theorem dX6_lowest_47 : decode cX6_lowest 47 = .ok (.invokevirtual 76, 3) := by decide +kernel
theorem dX6_lowest_50 : decode cX6_lowest 50 = .ok (.lstore 6, 2) := by decide +kernel
theorem dX6_lowest_52 : decode cX6_lowest 52 = .ok (.iload_n 3, 1) := by decide +kernel
theorem dX6_lowest_53 : decode cX6_lowest 53 = .ok (.lload 4, 2) := by decide +kernel
theorem dX6_lowest_55 : decode cX6_lowest 55 = .ok (.lload 6, 2) := by decide +kernel
theorem dX6_lowest_57 : decode cX6_lowest 57 = .ok (.lconst 1, 1) := by decide +kernel
theorem dX6_lowest_58 : decode cX6_lowest 58 = .ok (.invokestatic 83, 3) := by decide +kernel
theorem dX6_lowest_61 : decode cX6_lowest 61 = .ok (.lreturn, 1) := by decide +kernel
theorem dX6_lowest_62 : decode cX6_lowest 62 = .ok (.aload_n 0, 1) := by decide +kernel
theorem dX6_lowest_63 : decode cX6_lowest 63 = .ok (.aload_n 1, 1) := by decide +kernel
theorem dX6_lowest_64 : decode cX6_lowest 64 = .ok (.iload_n 2, 1) := by decide +kernel
theorem dX6_lowest_65 : decode cX6_lowest 65 = .ok (.lload 4, 2) := by decide +kernel
theorem dX6_lowest_67 : decode cX6_lowest 67 = .ok (.iconst 0, 1) := by decide +kernel
theorem dX6_lowest_68 : decode cX6_lowest 68 = .ok (.invokevirtual 87, 3) := by decide +kernel
theorem dX6_lowest_71 : decode cX6_lowest 71 = .ok (.aload_n 0, 1) := by decide +kernel
theorem dX6_lowest_72 : decode cX6_lowest 72 = .ok (.aload_n 1, 1) := by decide +kernel
theorem dX6_lowest_73 : decode cX6_lowest 73 = .ok (.iload_n 2, 1) := by decide +kernel
theorem dX6_lowest_74 : decode cX6_lowest 74 = .ok (.aload_n 0, 1) := by decide +kernel
theorem dX6_lowest_75 : decode cX6_lowest 75 = .ok (.aload_n 1, 1) := by decide +kernel
theorem dX6_lowest_76 : decode cX6_lowest 76 = .ok (.iload_n 2, 1) := by decide +kernel
theorem dX6_lowest_77 : decode cX6_lowest 77 = .ok (.iconst 0, 1) := by decide +kernel
theorem dX6_lowest_78 : decode cX6_lowest 78 = .ok (.invokevirtual 80, 3) := by decide +kernel
theorem dX6_lowest_81 : decode cX6_lowest 81 = .ok (.iconst 0, 1) := by decide +kernel
theorem dX6_lowest_82 : decode cX6_lowest 82 = .ok (.invokevirtual 87, 3) := by decide +kernel
theorem dX6_lowest_85 : decode cX6_lowest 85 = .ok (.invokestatic 57, 3) := by decide +kernel
theorem dX6_lowest_88 : decode cX6_lowest 88 = .ok (.lreturn, 1) := by decide +kernel
theorem dX6_highest_0 : decode cX6_highest 0 = .ok (.aload_n 1, 1) := by decide +kernel
theorem dX6_highest_1 : decode cX6_highest 1 = .ok (.getfield 72, 3) := by decide +kernel
theorem dX6_highest_4 : decode cX6_highest 4 = .ok (.iload_n 2, 1) := by decide +kernel
theorem dX6_highest_5 : decode cX6_highest 5 = .ok (.iaload, 1) := by decide +kernel
theorem dX6_highest_6 : decode cX6_highest 6 = .ok (.istore_n 3, 1) := by decide +kernel
theorem dX6_highest_7 : decode cX6_highest 7 = .ok (.iload_n 3, 1) := by decide +kernel
theorem dX6_highest_8 : decode cX6_highest 8 = .ok (.ifCond .ne 11, 3) := by decide +kernel
theorem dX6_highest_11 : decode cX6_highest 11 = .ok (.aload_n 0, 1) := by decide +kernel
theorem dX6_highest_12 : decode cX6_highest 12 = .ok (.aload_n 1, 1) := by decide +kernel
theorem dX6_highest_13 : decode cX6_highest 13 = .ok (.iload_n 2, 1) := by decide +kernel
theorem dX6_highest_14 : decode cX6_highest 14 = .ok (.iconst 1, 1) := by decide +kernel
theorem dX6_highest_15 : decode cX6_highest 15 = .ok (.invokevirtual 80, 3) := by decide +kernel
theorem dX6_highest_18 : decode cX6_highest 18 = .ok (.lreturn, 1) := by decide +kernel
theorem dX6_highest_19 : decode cX6_highest 19 = .ok (.aload_n 0, 1) := by decide +kernel
theorem dX6_highest_20 : decode cX6_highest 20 = .ok (.aload_n 1, 1) := by decide +kernel
theorem dX6_highest_21 : decode cX6_highest 21 = .ok (.iload_n 2, 1) := by decide +kernel
theorem dX6_highest_22 : decode cX6_highest 22 = .ok (.iconst 0, 1) := by decide +kernel
theorem dX6_highest_23 : decode cX6_highest 23 = .ok (.invokevirtual 80, 3) := by decide +kernel
theorem dX6_highest_26 : decode cX6_highest 26 = .ok (.lstore 4, 2) := by decide +kernel
theorem dX6_highest_28 : decode cX6_highest 28 = .ok (.iload_n 3, 1) := by decide +kernel
theorem dX6_highest_29 : decode cX6_highest 29 = .ok (.iconst 3, 1) := by decide +kernel
theorem dX6_highest_30 : decode cX6_highest 30 = .ok (.if_icmp .eq 37, 3) := by decide +kernel
theorem dX6_highest_33 : decode cX6_highest 33 = .ok (.iload_n 3, 1) := by decide +kernel
theorem dX6_highest_34 : decode cX6_highest 34 = .ok (.iconst 2, 1) := by decide +kernel
theorem dX6_highest_35 : decode cX6_highest 35 = .ok (.if_icmp .ne 13, 3) := by decide +kernel
theorem dX6_highest_38 : decode cX6_highest 38 = .ok (.aload_n 0, 1) := by decide +kernel
theorem dX6_highest_39 : decode cX6_highest 39 = .ok (.aload_n 1, 1) := by decide +kernel
theorem dX6_highest_40 : decode cX6_highest 40 = .ok (.iload_n 2, 1) := by decide +kernel
theorem dX6_highest_41 : decode cX6_highest 41 = .ok (.iconst 1, 1) := by decide +kernel
theorem dX6_highest_42 : decode cX6_highest 42 = .ok (.invokevirtual 76, 3) := by decide +kernel
theorem dX6_highest_45 : decode cX6_highest 45 = .ok (.goto 10, 3) := by decide +kernel
theorem dX6_highest_48 : decode cX6_highest 48 = .ok (.aload_n 0, 1) := by decide +kernel
theorem dX6_highest_49 : decode cX6_highest 49 = .ok (.aload_n 1, 1) := by decide +kernel
theorem dX6_highest_50 : decode cX6_highest 50 = .ok (.iload_n 2, 1) := by decide +kernel
theorem dX6_highest_51 : decode cX6_highest 51 = .ok (.iconst 1, 1) := by decide +kernel
theorem dX6_highest_52 : decode cX6_highest 52 = .ok (.invokevirtual 80, 3) := by decide +kernel
theorem dX6_highest_55 : decode cX6_highest 55 = .ok (.lstore 6, 2) := by decide +kernel
theorem dX6_highest_57 : decode cX6_highest 57 = .ok (.iload_n 3, 1) := by decide +kernel
theorem dX6_highest_58 : decode cX6_highest 58 = .ok (.lload 4, 2) := by decide +kernel
theorem dX6_highest_60 : decode cX6_highest 60 = .ok (.lload 6, 2) := by decide +kernel
theorem dX6_highest_62 : decode cX6_highest 62 = .ok (.lconst 1, 1) := by decide +kernel
theorem dX6_highest_63 : decode cX6_highest 63 = .ok (.invokestatic 83, 3) := by decide +kernel
theorem dX6_highest_66 : decode cX6_highest 66 = .ok (.lreturn, 1) := by decide +kernel
theorem dX6_highest_67 : decode cX6_highest 67 = .ok (.aload_n 0, 1) := by decide +kernel
theorem dX6_highest_68 : decode cX6_highest 68 = .ok (.aload_n 1, 1) := by decide +kernel
theorem dX6_highest_69 : decode cX6_highest 69 = .ok (.iload_n 2, 1) := by decide +kernel
theorem dX6_highest_70 : decode cX6_highest 70 = .ok (.lload 4, 2) := by decide +kernel
theorem dX6_highest_72 : decode cX6_highest 72 = .ok (.iconst 1, 1) := by decide +kernel
theorem dX6_highest_73 : decode cX6_highest 73 = .ok (.invokevirtual 87, 3) := by decide +kernel
theorem dX6_highest_76 : decode cX6_highest 76 = .ok (.aload_n 0, 1) := by decide +kernel
theorem dX6_highest_77 : decode cX6_highest 77 = .ok (.aload_n 1, 1) := by decide +kernel
theorem dX6_highest_78 : decode cX6_highest 78 = .ok (.iload_n 2, 1) := by decide +kernel
theorem dX6_highest_79 : decode cX6_highest 79 = .ok (.aload_n 0, 1) := by decide +kernel
theorem dX6_highest_80 : decode cX6_highest 80 = .ok (.aload_n 1, 1) := by decide +kernel
theorem dX6_highest_81 : decode cX6_highest 81 = .ok (.iload_n 2, 1) := by decide +kernel
theorem dX6_highest_82 : decode cX6_highest 82 = .ok (.iconst 0, 1) := by decide +kernel
theorem dX6_highest_83 : decode cX6_highest 83 = .ok (.invokevirtual 76, 3) := by decide +kernel
theorem dX6_highest_86 : decode cX6_highest 86 = .ok (.iconst 1, 1) := by decide +kernel
theorem dX6_highest_87 : decode cX6_highest 87 = .ok (.invokevirtual 87, 3) := by decide +kernel
theorem dX6_highest_90 : decode cX6_highest 90 = .ok (.invokestatic 63, 3) := by decide +kernel
theorem dX6_highest_93 : decode cX6_highest 93 = .ok (.lreturn, 1) := by decide +kernel
theorem dX6_endProduct_0 : decode cX6_endProduct 0 = .ok (.iconst 3, 1) := by decide +kernel
theorem dX6_endProduct_1 : decode cX6_endProduct 1 = .ok (.lload_n 3, 1) := by decide +kernel
theorem dX6_endProduct_2 : decode cX6_endProduct 2 = .ok (.aload_n 0, 1) := by decide +kernel
theorem dX6_endProduct_3 : decode cX6_endProduct 3 = .ok (.aload_n 1, 1) := by decide +kernel
theorem dX6_endProduct_4 : decode cX6_endProduct 4 = .ok (.iload_n 2, 1) := by decide +kernel
theorem dX6_endProduct_5 : decode cX6_endProduct 5 = .ok (.iconst 1, 1) := by decide +kernel
theorem dX6_endProduct_6 : decode cX6_endProduct 6 = .ok (.invokevirtual 76, 3) := by decide +kernel
theorem dX6_endProduct_9 : decode cX6_endProduct 9 = .ok (.lconst 1, 1) := by decide +kernel
theorem dX6_endProduct_10 : decode cX6_endProduct 10 = .ok (.invokestatic 83, 3) := by decide +kernel
theorem dX6_endProduct_13 : decode cX6_endProduct 13 = .ok (.lstore 6, 2) := by decide +kernel
theorem dX6_endProduct_15 : decode cX6_endProduct 15 = .ok (.iconst 3, 1) := by decide +kernel
theorem dX6_endProduct_16 : decode cX6_endProduct 16 = .ok (.lload_n 3, 1) := by decide +kernel
theorem dX6_endProduct_17 : decode cX6_endProduct 17 = .ok (.aload_n 0, 1) := by decide +kernel
theorem dX6_endProduct_18 : decode cX6_endProduct 18 = .ok (.aload_n 1, 1) := by decide +kernel
theorem dX6_endProduct_19 : decode cX6_endProduct 19 = .ok (.iload_n 2, 1) := by decide +kernel
theorem dX6_endProduct_20 : decode cX6_endProduct 20 = .ok (.iconst 1, 1) := by decide +kernel
theorem dX6_endProduct_21 : decode cX6_endProduct 21 = .ok (.invokevirtual 80, 3) := by decide +kernel
theorem dX6_endProduct_24 : decode cX6_endProduct 24 = .ok (.lconst 1, 1) := by decide +kernel
theorem dX6_endProduct_25 : decode cX6_endProduct 25 = .ok (.invokestatic 83, 3) := by decide +kernel
theorem dX6_endProduct_28 : decode cX6_endProduct 28 = .ok (.lstore 8, 2) := by decide +kernel
theorem dX6_endProduct_30 : decode cX6_endProduct 30 = .ok (.iload 5, 2) := by decide +kernel
theorem dX6_endProduct_32 : decode cX6_endProduct 32 = .ok (.ifCond .eq 13, 3) := by decide +kernel
theorem dX6_endProduct_35 : decode cX6_endProduct 35 = .ok (.lload 6, 2) := by decide +kernel
theorem dX6_endProduct_37 : decode cX6_endProduct 37 = .ok (.lload 8, 2) := by decide +kernel
theorem dX6_endProduct_39 : decode cX6_endProduct 39 = .ok (.invokestatic 63, 3) := by decide +kernel
theorem dX6_endProduct_42 : decode cX6_endProduct 42 = .ok (.goto 10, 3) := by decide +kernel
theorem dX6_endProduct_45 : decode cX6_endProduct 45 = .ok (.lload 6, 2) := by decide +kernel
theorem dX6_endProduct_47 : decode cX6_endProduct 47 = .ok (.lload 8, 2) := by decide +kernel
theorem dX6_endProduct_49 : decode cX6_endProduct 49 = .ok (.invokestatic 57, 3) := by decide +kernel
theorem dX6_endProduct_52 : decode cX6_endProduct 52 = .ok (.lreturn, 1) := by decide +kernel
theorem dX7_init_0 : decode cX7_init 0 = .ok (.aload_n 0, 1) := by decide +kernel
theorem dX7_init_1 : decode cX7_init 1 = .ok (.invokespecial 3, 3) := by decide +kernel
theorem dX7_init_4 : decode cX7_init 4 = .ok (.aload_n 0, 1) := by decide +kernel
theorem dX7_init_5 : decode cX7_init 5 = .ok (.bipush 14, 2) := by decide +kernel
theorem dX7_init_7 : decode cX7_init 7 = .ok (.newarray .long, 2) := by decide +kernel
theorem dX7_init_9 : decode cX7_init 9 = .ok (.putfield 9, 3) := by decide +kernel
theorem dX7_init_12 : decode cX7_init 12 = .ok (.return_, 1) := by decide +kernel
theorem dX7_reckon_0 : decode cX7_reckon 0 = .ok (.aload_n 0, 1) := by decide +kernel
theorem dX7_reckon_1 : decode cX7_reckon 1 = .ok (.bipush (-2), 2) := by decide +kernel
theorem dX7_reckon_3 : decode cX7_reckon 3 = .ok (.putfield 15, 3) := by decide +kernel
theorem dX7_reckon_6 : decode cX7_reckon 6 = .ok (.aload_n 0, 1) := by decide +kernel
theorem dX7_reckon_7 : decode cX7_reckon 7 = .ok (.iconst 0, 1) := by decide +kernel
theorem dX7_reckon_8 : decode cX7_reckon 8 = .ok (.putfield 19, 3) := by decide +kernel
theorem dX7_reckon_11 : decode cX7_reckon 11 = .ok (.iconst 0, 1) := by decide +kernel
theorem dX7_reckon_12 : decode cX7_reckon 12 = .ok (.istore 4, 2) := by decide +kernel
theorem dX7_reckon_14 : decode cX7_reckon 14 = .ok (.iload 4, 2) := by decide +kernel
theorem dX7_reckon_16 : decode cX7_reckon 16 = .ok (.aload_n 1, 1) := by decide +kernel
theorem dX7_reckon_17 : decode cX7_reckon 17 = .ok (.getfield 22, 3) := by decide +kernel
theorem dX7_reckon_20 : decode cX7_reckon 20 = .ok (.getfield 28, 3) := by decide +kernel
theorem dX7_reckon_23 : decode cX7_reckon 23 = .ok (.if_icmp .ge 118, 3) := by decide +kernel
theorem dX7_reckon_26 : decode cX7_reckon 26 = .ok (.aload_n 0, 1) := by decide +kernel
theorem dX7_reckon_27 : decode cX7_reckon 27 = .ok (.getfield 9, 3) := by decide +kernel
theorem dX7_reckon_30 : decode cX7_reckon 30 = .ok (.iload 4, 2) := by decide +kernel
theorem dX7_reckon_32 : decode cX7_reckon 32 = .ok (.aload_n 0, 1) := by decide +kernel
theorem dX7_reckon_33 : decode cX7_reckon 33 = .ok (.aload_n 1, 1) := by decide +kernel
theorem dX7_reckon_34 : decode cX7_reckon 34 = .ok (.aload_n 2, 1) := by decide +kernel
theorem dX7_reckon_35 : decode cX7_reckon 35 = .ok (.aload_n 3, 1) := by decide +kernel
theorem dX7_reckon_36 : decode cX7_reckon 36 = .ok (.iload 4, 2) := by decide +kernel
theorem dX7_reckon_38 : decode cX7_reckon 38 = .ok (.invokevirtual 33, 3) := by decide +kernel
theorem dX7_reckon_41 : decode cX7_reckon 41 = .ok (.lastore, 1) := by decide +kernel
theorem dX7_reckon_42 : decode cX7_reckon 42 = .ok (.aload_n 1, 1) := by decide +kernel
theorem dX7_reckon_43 : decode cX7_reckon 43 = .ok (.aload_n 1, 1) := by decide +kernel
theorem dX7_reckon_44 : decode cX7_reckon 44 = .ok (.aload_n 3, 1) := by decide +kernel
theorem dX7_reckon_45 : decode cX7_reckon 45 = .ok (.iload 4, 2) := by decide +kernel
theorem dX7_reckon_47 : decode cX7_reckon 47 = .ok (.invokevirtual 37, 3) := by decide +kernel
theorem dX7_reckon_50 : decode cX7_reckon 50 = .ok (.invokevirtual 41, 3) := by decide +kernel
theorem dX7_reckon_53 : decode cX7_reckon 53 = .ok (.istore 5, 2) := by decide +kernel
theorem dX7_reckon_55 : decode cX7_reckon 55 = .ok (.aload_n 2, 1) := by decide +kernel
theorem dX7_reckon_56 : decode cX7_reckon 56 = .ok (.iload 4, 2) := by decide +kernel
theorem dX7_reckon_58 : decode cX7_reckon 58 = .ok (.invokevirtual 45, 3) := by decide +kernel
theorem dX7_reckon_61 : decode cX7_reckon 61 = .ok (.aload_n 0, 1) := by decide +kernel
theorem dX7_reckon_62 : decode cX7_reckon 62 = .ok (.getfield 9, 3) := by decide +kernel
theorem dX7_reckon_65 : decode cX7_reckon 65 = .ok (.iload 4, 2) := by decide +kernel
theorem dX7_reckon_67 : decode cX7_reckon 67 = .ok (.laload, 1) := by decide +kernel
theorem dX7_reckon_68 : decode cX7_reckon 68 = .ok (.ladd, 1) := by decide +kernel
theorem dX7_reckon_69 : decode cX7_reckon 69 = .ok (.iload 5, 2) := by decide +kernel
theorem dX7_reckon_71 : decode cX7_reckon 71 = .ok (.i2l, 1) := by decide +kernel
theorem dX7_reckon_72 : decode cX7_reckon 72 = .ok (.lcmp, 1) := by decide +kernel
theorem dX7_reckon_73 : decode cX7_reckon 73 = .ok (.ifCond .le 11, 3) := by decide +kernel
theorem dX7_reckon_76 : decode cX7_reckon 76 = .ok (.aload_n 0, 1) := by decide +kernel
theorem dX7_reckon_77 : decode cX7_reckon 77 = .ok (.iconst 1, 1) := by decide +kernel
theorem dX7_reckon_78 : decode cX7_reckon 78 = .ok (.putfield 19, 3) := by decide +kernel
theorem dX7_reckon_81 : decode cX7_reckon 81 = .ok (.goto 39, 3) := by decide +kernel
theorem dX7_reckon_84 : decode cX7_reckon 84 = .ok (.aload_n 1, 1) := by decide +kernel
theorem dX7_reckon_85 : decode cX7_reckon 85 = .ok (.iload 4, 2) := by decide +kernel
theorem dX7_reckon_87 : decode cX7_reckon 87 = .ok (.invokevirtual 51, 3) := by decide +kernel
theorem dX7_reckon_90 : decode cX7_reckon 90 = .ok (.ifCond .eq 30, 3) := by decide +kernel
theorem dX7_reckon_93 : decode cX7_reckon 93 = .ok (.aload_n 0, 1) := by decide +kernel
theorem dX7_reckon_94 : decode cX7_reckon 94 = .ok (.getfield 9, 3) := by decide +kernel
theorem dX7_reckon_97 : decode cX7_reckon 97 = .ok (.iload 4, 2) := by decide +kernel
theorem dX7_reckon_99 : decode cX7_reckon 99 = .ok (.laload, 1) := by decide +kernel
theorem dX7_reckon_100 : decode cX7_reckon 100 = .ok (.aload_n 1, 1) := by decide +kernel
theorem dX7_reckon_101 : decode cX7_reckon 101 = .ok (.getfield 22, 3) := by decide +kernel
theorem dX7_reckon_104 : decode cX7_reckon 104 = .ok (.getfield 55, 3) := by decide +kernel
theorem dX7_reckon_107 : decode cX7_reckon 107 = .ok (.iload 4, 2) := by decide +kernel
theorem dX7_reckon_109 : decode cX7_reckon 109 = .ok (.iaload, 1) := by decide +kernel
theorem dX7_reckon_110 : decode cX7_reckon 110 = .ok (.i2l, 1) := by decide +kernel
theorem dX7_reckon_111 : decode cX7_reckon 111 = .ok (.lcmp, 1) := by decide +kernel
theorem dX7_reckon_112 : decode cX7_reckon 112 = .ok (.ifCond .le 8, 3) := by decide +kernel
theorem dX7_reckon_115 : decode cX7_reckon 115 = .ok (.aload_n 0, 1) := by decide +kernel
theorem dX7_reckon_116 : decode cX7_reckon 116 = .ok (.iconst 2, 1) := by decide +kernel
theorem dX7_reckon_117 : decode cX7_reckon 117 = .ok (.putfield 19, 3) := by decide +kernel
theorem dX7_reckon_120 : decode cX7_reckon 120 = .ok (.aload_n 0, 1) := by decide +kernel
theorem dX7_reckon_121 : decode cX7_reckon 121 = .ok (.getfield 19, 3) := by decide +kernel
theorem dX7_reckon_124 : decode cX7_reckon 124 = .ok (.ifCond .eq 11, 3) := by decide +kernel
theorem dX7_reckon_127 : decode cX7_reckon 127 = .ok (.aload_n 0, 1) := by decide +kernel
theorem dX7_reckon_128 : decode cX7_reckon 128 = .ok (.iload 4, 2) := by decide +kernel
theorem dX7_reckon_130 : decode cX7_reckon 130 = .ok (.putfield 15, 3) := by decide +kernel
theorem dX7_reckon_133 : decode cX7_reckon 133 = .ok (.iconst 0, 1) := by decide +kernel
theorem dX7_reckon_134 : decode cX7_reckon 134 = .ok (.ireturn, 1) := by decide +kernel
theorem dX7_reckon_135 : decode cX7_reckon 135 = .ok (.iinc 4 1, 3) := by decide +kernel
theorem dX7_reckon_138 : decode cX7_reckon 138 = .ok (.goto (-124), 3) := by decide +kernel
theorem dX7_reckon_141 : decode cX7_reckon 141 = .ok (.iconst 1, 1) := by decide +kernel
theorem dX7_reckon_142 : decode cX7_reckon 142 = .ok (.ireturn, 1) := by decide +kernel
theorem dX7_errorOf_0 : decode cX7_errorOf 0 = .ok (.aload_n 1, 1) := by decide +kernel
theorem dX7_errorOf_1 : decode cX7_errorOf 1 = .ok (.aload_n 1, 1) := by decide +kernel
theorem dX7_errorOf_2 : decode cX7_errorOf 2 = .ok (.aload_n 3, 1) := by decide +kernel
theorem dX7_errorOf_3 : decode cX7_errorOf 3 = .ok (.iload 4, 2) := by decide +kernel
theorem dX7_errorOf_5 : decode cX7_errorOf 5 = .ok (.invokevirtual 37, 3) := by decide +kernel
theorem dX7_errorOf_8 : decode cX7_errorOf 8 = .ok (.invokevirtual 59, 3) := by decide +kernel
theorem dX7_errorOf_11 : decode cX7_errorOf 11 = .ok (.istore 5, 2) := by decide +kernel
theorem dX7_errorOf_13 : decode cX7_errorOf 13 = .ok (.iload 5, 2) := by decide +kernel
theorem dX7_errorOf_15 : decode cX7_errorOf 15 = .ok (.iconst 2, 1) := by decide +kernel
theorem dX7_errorOf_16 : decode cX7_errorOf 16 = .ok (.idiv, 1) := by decide +kernel
theorem dX7_errorOf_17 : decode cX7_errorOf 17 = .ok (.i2l, 1) := by decide +kernel
theorem dX7_errorOf_18 : decode cX7_errorOf 18 = .ok (.lstore 6, 2) := by decide +kernel
theorem dX7_errorOf_20 : decode cX7_errorOf 20 = .ok (.aload_n 1, 1) := by decide +kernel
theorem dX7_errorOf_21 : decode cX7_errorOf 21 = .ok (.getfield 22, 3) := by decide +kernel
theorem dX7_errorOf_24 : decode cX7_errorOf 24 = .ok (.getfield 62, 3) := by decide +kernel
theorem dX7_errorOf_27 : decode cX7_errorOf 27 = .ok (.iload 4, 2) := by decide +kernel
theorem dX7_errorOf_29 : decode cX7_errorOf 29 = .ok (.iaload, 1) := by decide +kernel
theorem dX7_errorOf_30 : decode cX7_errorOf 30 = .ok (.istore 8, 2) := by decide +kernel
theorem dX7_errorOf_32 : decode cX7_errorOf 32 = .ok (.iload 8, 2) := by decide +kernel
theorem dX7_errorOf_34 : decode cX7_errorOf 34 = .ok (.ifCond .ne 6, 3) := by decide +kernel
theorem dX7_errorOf_37 : decode cX7_errorOf 37 = .ok (.lload 6, 2) := by decide +kernel
theorem dX7_errorOf_39 : decode cX7_errorOf 39 = .ok (.lreturn, 1) := by decide +kernel
theorem dX7_errorOf_40 : decode cX7_errorOf 40 = .ok (.aload_n 0, 1) := by decide +kernel
theorem dX7_errorOf_41 : decode cX7_errorOf 41 = .ok (.aload_n 1, 1) := by decide +kernel
theorem dX7_errorOf_42 : decode cX7_errorOf 42 = .ok (.aload_n 3, 1) := by decide +kernel
theorem dX7_errorOf_43 : decode cX7_errorOf 43 = .ok (.iload 4, 2) := by decide +kernel
theorem dX7_errorOf_45 : decode cX7_errorOf 45 = .ok (.iconst 0, 1) := by decide +kernel
theorem dX7_errorOf_46 : decode cX7_errorOf 46 = .ok (.invokevirtual 65, 3) := by decide +kernel
theorem dX7_errorOf_49 : decode cX7_errorOf 49 = .ok (.lstore 9, 2) := by decide +kernel
theorem dX7_errorOf_51 : decode cX7_errorOf 51 = .ok (.aload_n 0, 1) := by decide +kernel
theorem dX7_errorOf_52 : decode cX7_errorOf 52 = .ok (.aload_n 1, 1) := by decide +kernel
theorem dX7_errorOf_53 : decode cX7_errorOf 53 = .ok (.aload_n 3, 1) := by decide +kernel
theorem dX7_errorOf_54 : decode cX7_errorOf 54 = .ok (.iload 4, 2) := by decide +kernel
theorem dX7_errorOf_56 : decode cX7_errorOf 56 = .ok (.iconst 1, 1) := by decide +kernel
theorem dX7_errorOf_57 : decode cX7_errorOf 57 = .ok (.invokevirtual 65, 3) := by decide +kernel
theorem dX7_errorOf_60 : decode cX7_errorOf 60 = .ok (.lstore 11, 2) := by decide +kernel
theorem dX7_errorOf_62 : decode cX7_errorOf 62 = .ok (.iload 8, 2) := by decide +kernel
theorem dX7_errorOf_64 : decode cX7_errorOf 64 = .ok (.iconst 4, 1) := by decide +kernel
theorem dX7_errorOf_65 : decode cX7_errorOf 65 = .ok (.if_icmp .eq 9, 3) := by decide +kernel
theorem dX7_errorOf_68 : decode cX7_errorOf 68 = .ok (.iload 8, 2) := by decide +kernel
theorem dX7_errorOf_70 : decode cX7_errorOf 70 = .ok (.iconst 5, 1) := by decide +kernel
theorem dX7_errorOf_71 : decode cX7_errorOf 71 = .ok (.if_icmp .ne 11, 3) := by decide +kernel
theorem dX7_errorOf_74 : decode cX7_errorOf 74 = .ok (.lload 9, 2) := by decide +kernel
theorem dX7_errorOf_76 : decode cX7_errorOf 76 = .ok (.lload 11, 2) := by decide +kernel
theorem dX7_errorOf_78 : decode cX7_errorOf 78 = .ok (.invokestatic 69, 3) := by decide +kernel
theorem dX7_errorOf_81 : decode cX7_errorOf 81 = .ok (.lreturn, 1) := by decide +kernel
theorem dX7_errorOf_82 : decode cX7_errorOf 82 = .ok (.iload 8, 2) := by decide +kernel
theorem dX7_errorOf_84 : decode cX7_errorOf 84 = .ok (.iconst 3, 1) := by decide +kernel
theorem dX7_errorOf_85 : decode cX7_errorOf 85 = .ok (.if_icmp .eq 9, 3) := by decide +kernel
theorem dX7_errorOf_88 : decode cX7_errorOf 88 = .ok (.lload 9, 2) := by decide +kernel
theorem dX7_errorOf_90 : decode cX7_errorOf 90 = .ok (.lload 11, 2) := by decide +kernel
theorem dX7_errorOf_92 : decode cX7_errorOf 92 = .ok (.ladd, 1) := by decide +kernel
theorem dX7_errorOf_93 : decode cX7_errorOf 93 = .ok (.lreturn, 1) := by decide +kernel
theorem dX7_errorOf_94 : decode cX7_errorOf 94 = .ok (.aload_n 2, 1) := by decide +kernel
theorem dX7_errorOf_95 : decode cX7_errorOf 95 = .ok (.aload_n 1, 1) := by decide +kernel
theorem dX7_errorOf_96 : decode cX7_errorOf 96 = .ok (.getfield 22, 3) := by decide +kernel
theorem dX7_errorOf_99 : decode cX7_errorOf 99 = .ok (.iload 4, 2) := by decide +kernel
theorem dX7_errorOf_101 : decode cX7_errorOf 101 = .ok (.iconst 0, 1) := by decide +kernel
theorem dX7_errorOf_102 : decode cX7_errorOf 102 = .ok (.invokevirtual 75, 3) := by decide +kernel
theorem dX7_errorOf_105 : decode cX7_errorOf 105 = .ok (.lstore 13, 2) := by decide +kernel
theorem dX7_errorOf_107 : decode cX7_errorOf 107 = .ok (.aload_n 2, 1) := by decide +kernel
theorem dX7_errorOf_108 : decode cX7_errorOf 108 = .ok (.aload_n 1, 1) := by decide +kernel
theorem dX7_errorOf_109 : decode cX7_errorOf 109 = .ok (.getfield 22, 3) := by decide +kernel
theorem dX7_errorOf_112 : decode cX7_errorOf 112 = .ok (.iload 4, 2) := by decide +kernel
theorem dX7_errorOf_114 : decode cX7_errorOf 114 = .ok (.iconst 1, 1) := by decide +kernel
theorem dX7_errorOf_115 : decode cX7_errorOf 115 = .ok (.invokevirtual 75, 3) := by decide +kernel
theorem dX7_errorOf_118 : decode cX7_errorOf 118 = .ok (.lstore 15, 2) := by decide +kernel
theorem dX7_errorOf_120 : decode cX7_errorOf 120 = .ok (.lload 13, 2) := by decide +kernel
theorem dX7_errorOf_122 : decode cX7_errorOf 122 = .ok (.lload 11, 2) := by decide +kernel
theorem dX7_errorOf_124 : decode cX7_errorOf 124 = .ok (.lmul, 1) := by decide +kernel
theorem dX7_errorOf_125 : decode cX7_errorOf 125 = .ok (.lload 15, 2) := by decide +kernel
theorem dX7_errorOf_127 : decode cX7_errorOf 127 = .ok (.lload 9, 2) := by decide +kernel
theorem dX7_errorOf_129 : decode cX7_errorOf 129 = .ok (.lmul, 1) := by decide +kernel
theorem dX7_errorOf_130 : decode cX7_errorOf 130 = .ok (.ladd, 1) := by decide +kernel
theorem dX7_errorOf_131 : decode cX7_errorOf 131 = .ok (.lload 9, 2) := by decide +kernel
theorem dX7_errorOf_133 : decode cX7_errorOf 133 = .ok (.lload 11, 2) := by decide +kernel
theorem dX7_errorOf_135 : decode cX7_errorOf 135 = .ok (.lmul, 1) := by decide +kernel
theorem dX7_errorOf_136 : decode cX7_errorOf 136 = .ok (.ladd, 1) := by decide +kernel
theorem dX7_errorOf_137 : decode cX7_errorOf 137 = .ok (.ldc2_w 79, 3) := by decide +kernel
theorem dX7_errorOf_140 : decode cX7_errorOf 140 = .ok (.ladd, 1) := by decide +kernel
theorem dX7_errorOf_141 : decode cX7_errorOf 141 = .ok (.ldc2_w 81, 3) := by decide +kernel
theorem dX7_errorOf_144 : decode cX7_errorOf 144 = .ok (.ldiv, 1) := by decide +kernel
theorem dX7_errorOf_145 : decode cX7_errorOf 145 = .ok (.lload 6, 2) := by decide +kernel
theorem dX7_errorOf_147 : decode cX7_errorOf 147 = .ok (.ladd, 1) := by decide +kernel
theorem dX7_errorOf_148 : decode cX7_errorOf 148 = .ok (.lconst 1, 1) := by decide +kernel
theorem dX7_errorOf_149 : decode cX7_errorOf 149 = .ok (.ladd, 1) := by decide +kernel
theorem dX7_errorOf_150 : decode cX7_errorOf 150 = .ok (.lreturn, 1) := by decide +kernel
theorem dX7_errorBehindCast_0 : decode cX7_errorBehindCast 0 = .ok (.aload_n 1, 1) := by decide +kernel
theorem dX7_errorBehindCast_1 : decode cX7_errorBehindCast 1 = .ok (.aload_n 1, 1) := by decide +kernel
theorem dX7_errorBehindCast_2 : decode cX7_errorBehindCast 2 = .ok (.aload_n 2, 1) := by decide +kernel
theorem dX7_errorBehindCast_3 : decode cX7_errorBehindCast 3 = .ok (.iload_n 3, 1) := by decide +kernel
theorem dX7_errorBehindCast_4 : decode cX7_errorBehindCast 4 = .ok (.invokevirtual 37, 3) := by decide +kernel
theorem dX7_errorBehindCast_7 : decode cX7_errorBehindCast 7 = .ok (.invokevirtual 59, 3) := by decide +kernel
theorem dX7_errorBehindCast_10 : decode cX7_errorBehindCast 10 = .ok (.istore 5, 2) := by decide +kernel
theorem dX7_errorBehindCast_12 : decode cX7_errorBehindCast 12 = .ok (.iload 5, 2) := by decide +kernel
theorem dX7_errorBehindCast_14 : decode cX7_errorBehindCast 14 = .ok (.iconst 2, 1) := by decide +kernel
theorem dX7_errorBehindCast_15 : decode cX7_errorBehindCast 15 = .ok (.idiv, 1) := by decide +kernel
theorem dX7_errorBehindCast_16 : decode cX7_errorBehindCast 16 = .ok (.i2l, 1) := by decide +kernel
theorem dX7_errorBehindCast_17 : decode cX7_errorBehindCast 17 = .ok (.lstore 6, 2) := by decide +kernel
theorem dX7_errorBehindCast_19 : decode cX7_errorBehindCast 19 = .ok (.aload_n 1, 1) := by decide +kernel
theorem dX7_errorBehindCast_20 : decode cX7_errorBehindCast 20 = .ok (.getfield 22, 3) := by decide +kernel
theorem dX7_errorBehindCast_23 : decode cX7_errorBehindCast 23 = .ok (.iload_n 3, 1) := by decide +kernel
theorem dX7_errorBehindCast_24 : decode cX7_errorBehindCast 24 = .ok (.iload 4, 2) := by decide +kernel
theorem dX7_errorBehindCast_26 : decode cX7_errorBehindCast 26 = .ok (.invokevirtual 83, 3) := by decide +kernel
theorem dX7_errorBehindCast_29 : decode cX7_errorBehindCast 29 = .ok (.istore 8, 2) := by decide +kernel
theorem dX7_errorBehindCast_31 : decode cX7_errorBehindCast 31 = .ok (.iload 8, 2) := by decide +kernel
theorem dX7_errorBehindCast_33 : decode cX7_errorBehindCast 33 = .ok (.ifCond .lt 9, 3) := by decide +kernel
theorem dX7_errorBehindCast_36 : decode cX7_errorBehindCast 36 = .ok (.iload 8, 2) := by decide +kernel
theorem dX7_errorBehindCast_38 : decode cX7_errorBehindCast 38 = .ok (.iload_n 3, 1) := by decide +kernel
theorem dX7_errorBehindCast_39 : decode cX7_errorBehindCast 39 = .ok (.if_icmp .lt 29, 3) := by decide +kernel
theorem dX7_errorBehindCast_42 : decode cX7_errorBehindCast 42 = .ok (.iload 5, 2) := by decide +kernel
theorem dX7_errorBehindCast_44 : decode cX7_errorBehindCast 44 = .ok (.i2l, 1) := by decide +kernel
theorem dX7_errorBehindCast_45 : decode cX7_errorBehindCast 45 = .ok (.aload_n 1, 1) := by decide +kernel
theorem dX7_errorBehindCast_46 : decode cX7_errorBehindCast 46 = .ok (.getfield 22, 3) := by decide +kernel
theorem dX7_errorBehindCast_49 : decode cX7_errorBehindCast 49 = .ok (.iload_n 3, 1) := by decide +kernel
theorem dX7_errorBehindCast_50 : decode cX7_errorBehindCast 50 = .ok (.iload 4, 2) := by decide +kernel
theorem dX7_errorBehindCast_52 : decode cX7_errorBehindCast 52 = .ok (.invokevirtual 87, 3) := by decide +kernel
theorem dX7_errorBehindCast_55 : decode cX7_errorBehindCast 55 = .ok (.invokestatic 90, 3) := by decide +kernel
theorem dX7_errorBehindCast_58 : decode cX7_errorBehindCast 58 = .ok (.ifCond .eq 7, 3) := by decide +kernel
theorem dX7_errorBehindCast_61 : decode cX7_errorBehindCast 61 = .ok (.lconst 0, 1) := by decide +kernel
theorem dX7_errorBehindCast_62 : decode cX7_errorBehindCast 62 = .ok (.goto 5, 3) := by decide +kernel
theorem dX7_errorBehindCast_65 : decode cX7_errorBehindCast 65 = .ok (.lload 6, 2) := by decide +kernel
theorem dX7_errorBehindCast_67 : decode cX7_errorBehindCast 67 = .ok (.lreturn, 1) := by decide +kernel
theorem dX7_errorBehindCast_68 : decode cX7_errorBehindCast 68 = .ok (.aload_n 1, 1) := by decide +kernel
theorem dX7_errorBehindCast_69 : decode cX7_errorBehindCast 69 = .ok (.aload_n 1, 1) := by decide +kernel
theorem dX7_errorBehindCast_70 : decode cX7_errorBehindCast 70 = .ok (.aload_n 2, 1) := by decide +kernel
theorem dX7_errorBehindCast_71 : decode cX7_errorBehindCast 71 = .ok (.iload 8, 2) := by decide +kernel
theorem dX7_errorBehindCast_73 : decode cX7_errorBehindCast 73 = .ok (.invokevirtual 37, 3) := by decide +kernel
theorem dX7_errorBehindCast_76 : decode cX7_errorBehindCast 76 = .ok (.invokevirtual 59, 3) := by decide +kernel
theorem dX7_errorBehindCast_79 : decode cX7_errorBehindCast 79 = .ok (.istore 9, 2) := by decide +kernel
theorem dX7_errorBehindCast_81 : decode cX7_errorBehindCast 81 = .ok (.aload_n 0, 1) := by decide +kernel
theorem dX7_errorBehindCast_82 : decode cX7_errorBehindCast 82 = .ok (.getfield 9, 3) := by decide +kernel
theorem dX7_errorBehindCast_85 : decode cX7_errorBehindCast 85 = .ok (.iload 8, 2) := by decide +kernel
theorem dX7_errorBehindCast_87 : decode cX7_errorBehindCast 87 = .ok (.laload, 1) := by decide +kernel
theorem dX7_errorBehindCast_88 : decode cX7_errorBehindCast 88 = .ok (.iload 5, 2) := by decide +kernel
theorem dX7_errorBehindCast_90 : decode cX7_errorBehindCast 90 = .ok (.i2l, 1) := by decide +kernel
theorem dX7_errorBehindCast_91 : decode cX7_errorBehindCast 91 = .ok (.iload 9, 2) := by decide +kernel
theorem dX7_errorBehindCast_93 : decode cX7_errorBehindCast 93 = .ok (.i2l, 1) := by decide +kernel
theorem dX7_errorBehindCast_94 : decode cX7_errorBehindCast 94 = .ok (.invokestatic 90, 3) := by decide +kernel
theorem dX7_errorBehindCast_97 : decode cX7_errorBehindCast 97 = .ok (.ifCond .eq 7, 3) := by decide +kernel
theorem dX7_errorBehindCast_100 : decode cX7_errorBehindCast 100 = .ok (.lconst 0, 1) := by decide +kernel
theorem dX7_errorBehindCast_101 : decode cX7_errorBehindCast 101 = .ok (.goto 5, 3) := by decide +kernel
theorem dX7_errorBehindCast_104 : decode cX7_errorBehindCast 104 = .ok (.lload 6, 2) := by decide +kernel
theorem dX7_errorBehindCast_106 : decode cX7_errorBehindCast 106 = .ok (.ladd, 1) := by decide +kernel
theorem dX7_errorBehindCast_107 : decode cX7_errorBehindCast 107 = .ok (.lreturn, 1) := by decide +kernel
theorem dX8_init_0 : decode cX8_init 0 = .ok (.aload_n 0, 1) := by decide +kernel
theorem dX8_init_1 : decode cX8_init 1 = .ok (.invokespecial 3, 3) := by decide +kernel
theorem dX8_init_4 : decode cX8_init 4 = .ok (.aload_n 0, 1) := by decide +kernel
theorem dX8_init_5 : decode cX8_init 5 = .ok (.bipush 14, 2) := by decide +kernel
theorem dX8_init_7 : decode cX8_init 7 = .ok (.newarray .long, 2) := by decide +kernel
theorem dX8_init_9 : decode cX8_init 9 = .ok (.putfield 9, 3) := by decide +kernel
theorem dX8_init_12 : decode cX8_init 12 = .ok (.aload_n 0, 1) := by decide +kernel
theorem dX8_init_13 : decode cX8_init 13 = .ok (.bipush 14, 2) := by decide +kernel
theorem dX8_init_15 : decode cX8_init 15 = .ok (.newarray .long, 2) := by decide +kernel
theorem dX8_init_17 : decode cX8_init 17 = .ok (.putfield 15, 3) := by decide +kernel
theorem dX8_init_20 : decode cX8_init 20 = .ok (.return_, 1) := by decide +kernel
theorem dX8_sample_0 : decode cX8_sample 0 = .ok (.iload_n 3, 1) := by decide +kernel
theorem dX8_sample_1 : decode cX8_sample 1 = .ok (.i2l, 1) := by decide +kernel
theorem dX8_sample_2 : decode cX8_sample 2 = .ok (.lstore 4, 2) := by decide +kernel
theorem dX8_sample_4 : decode cX8_sample 4 = .ok (.iconst 0, 1) := by decide +kernel
theorem dX8_sample_5 : decode cX8_sample 5 = .ok (.istore 6, 2) := by decide +kernel
theorem dX8_sample_7 : decode cX8_sample 7 = .ok (.iload 6, 2) := by decide +kernel
theorem dX8_sample_9 : decode cX8_sample 9 = .ok (.aload_n 1, 1) := by decide +kernel
theorem dX8_sample_10 : decode cX8_sample 10 = .ok (.getfield 18, 3) := by decide +kernel
theorem dX8_sample_13 : decode cX8_sample 13 = .ok (.getfield 24, 3) := by decide +kernel
theorem dX8_sample_16 : decode cX8_sample 16 = .ok (.if_icmp .ge 221, 3) := by decide +kernel
theorem dX8_sample_19 : decode cX8_sample 19 = .ok (.aload_n 1, 1) := by decide +kernel
theorem dX8_sample_20 : decode cX8_sample 20 = .ok (.aload_n 1, 1) := by decide +kernel
theorem dX8_sample_21 : decode cX8_sample 21 = .ok (.aload_n 2, 1) := by decide +kernel
theorem dX8_sample_22 : decode cX8_sample 22 = .ok (.iload 6, 2) := by decide +kernel
theorem dX8_sample_24 : decode cX8_sample 24 = .ok (.invokevirtual 30, 3) := by decide +kernel
theorem dX8_sample_27 : decode cX8_sample 27 = .ok (.invokevirtual 34, 3) := by decide +kernel
theorem dX8_sample_30 : decode cX8_sample 30 = .ok (.istore 7, 2) := by decide +kernel
theorem dX8_sample_32 : decode cX8_sample 32 = .ok (.aload_n 1, 1) := by decide +kernel
theorem dX8_sample_33 : decode cX8_sample 33 = .ok (.getfield 18, 3) := by decide +kernel
theorem dX8_sample_36 : decode cX8_sample 36 = .ok (.getfield 38, 3) := by decide +kernel
theorem dX8_sample_39 : decode cX8_sample 39 = .ok (.iload 6, 2) := by decide +kernel
theorem dX8_sample_41 : decode cX8_sample 41 = .ok (.iaload, 1) := by decide +kernel
theorem dX8_sample_42 : decode cX8_sample 42 = .ok (.istore 8, 2) := by decide +kernel
theorem dX8_sample_44 : decode cX8_sample 44 = .ok (.iload 8, 2) := by decide +kernel
theorem dX8_sample_46 : decode cX8_sample 46 = .ok (.ifCond .ne 91, 3) := by decide +kernel
theorem dX8_sample_49 : decode cX8_sample 49 = .ok (.ldc2_w 42, 3) := by decide +kernel
theorem dX8_sample_52 : decode cX8_sample 52 = .ok (.lload 4, 2) := by decide +kernel
theorem dX8_sample_54 : decode cX8_sample 54 = .ok (.lmul, 1) := by decide +kernel
theorem dX8_sample_55 : decode cX8_sample 55 = .ok (.ldc2_w 44, 3) := by decide +kernel
theorem dX8_sample_58 : decode cX8_sample 58 = .ok (.ladd, 1) := by decide +kernel
theorem dX8_sample_59 : decode cX8_sample 59 = .ok (.ldc2_w 46, 3) := by decide +kernel
theorem dX8_sample_62 : decode cX8_sample 62 = .ok (.lrem, 1) := by decide +kernel
theorem dX8_sample_63 : decode cX8_sample 63 = .ok (.lstore 4, 2) := by decide +kernel
theorem dX8_sample_65 : decode cX8_sample 65 = .ok (.aload_n 1, 1) := by decide +kernel
theorem dX8_sample_66 : decode cX8_sample 66 = .ok (.getfield 18, 3) := by decide +kernel
theorem dX8_sample_69 : decode cX8_sample 69 = .ok (.iload 6, 2) := by decide +kernel
theorem dX8_sample_71 : decode cX8_sample 71 = .ok (.iconst 0, 1) := by decide +kernel
theorem dX8_sample_72 : decode cX8_sample 72 = .ok (.invokevirtual 48, 3) := by decide +kernel
theorem dX8_sample_75 : decode cX8_sample 75 = .ok (.lstore 9, 2) := by decide +kernel
theorem dX8_sample_77 : decode cX8_sample 77 = .ok (.aload_n 1, 1) := by decide +kernel
theorem dX8_sample_78 : decode cX8_sample 78 = .ok (.getfield 18, 3) := by decide +kernel
theorem dX8_sample_81 : decode cX8_sample 81 = .ok (.iload 6, 2) := by decide +kernel
theorem dX8_sample_83 : decode cX8_sample 83 = .ok (.iconst 1, 1) := by decide +kernel
theorem dX8_sample_84 : decode cX8_sample 84 = .ok (.invokevirtual 48, 3) := by decide +kernel
theorem dX8_sample_87 : decode cX8_sample 87 = .ok (.lload 9, 2) := by decide +kernel
theorem dX8_sample_89 : decode cX8_sample 89 = .ok (.lsub, 1) := by decide +kernel
theorem dX8_sample_90 : decode cX8_sample 90 = .ok (.lconst 1, 1) := by decide +kernel
theorem dX8_sample_91 : decode cX8_sample 91 = .ok (.ladd, 1) := by decide +kernel
theorem dX8_sample_92 : decode cX8_sample 92 = .ok (.lstore 11, 2) := by decide +kernel
theorem dX8_sample_94 : decode cX8_sample 94 = .ok (.aload_n 0, 1) := by decide +kernel
theorem dX8_sample_95 : decode cX8_sample 95 = .ok (.getfield 9, 3) := by decide +kernel
theorem dX8_sample_98 : decode cX8_sample 98 = .ok (.iload 6, 2) := by decide +kernel
theorem dX8_sample_100 : decode cX8_sample 100 = .ok (.lload 9, 2) := by decide +kernel
theorem dX8_sample_102 : decode cX8_sample 102 = .ok (.lload 4, 2) := by decide +kernel
theorem dX8_sample_104 : decode cX8_sample 104 = .ok (.lload 11, 2) := by decide +kernel
theorem dX8_sample_106 : decode cX8_sample 106 = .ok (.lmul, 1) := by decide +kernel
theorem dX8_sample_107 : decode cX8_sample 107 = .ok (.ldc2_w 46, 3) := by decide +kernel
theorem dX8_sample_110 : decode cX8_sample 110 = .ok (.ldiv, 1) := by decide +kernel
theorem dX8_sample_111 : decode cX8_sample 111 = .ok (.ladd, 1) := by decide +kernel
theorem dX8_sample_112 : decode cX8_sample 112 = .ok (.lastore, 1) := by decide +kernel
theorem dX8_sample_113 : decode cX8_sample 113 = .ok (.aload_n 0, 1) := by decide +kernel
theorem dX8_sample_114 : decode cX8_sample 114 = .ok (.getfield 15, 3) := by decide +kernel
theorem dX8_sample_117 : decode cX8_sample 117 = .ok (.iload 6, 2) := by decide +kernel
theorem dX8_sample_119 : decode cX8_sample 119 = .ok (.aload_n 0, 1) := by decide +kernel
theorem dX8_sample_120 : decode cX8_sample 120 = .ok (.getfield 9, 3) := by decide +kernel
theorem dX8_sample_123 : decode cX8_sample 123 = .ok (.iload 6, 2) := by decide +kernel
theorem dX8_sample_125 : decode cX8_sample 125 = .ok (.laload, 1) := by decide +kernel
theorem dX8_sample_126 : decode cX8_sample 126 = .ok (.lconst 1, 1) := by decide +kernel
theorem dX8_sample_127 : decode cX8_sample 127 = .ok (.iload 7, 2) := by decide +kernel
theorem dX8_sample_129 : decode cX8_sample 129 = .ok (.i2l, 1) := by decide +kernel
theorem dX8_sample_130 : decode cX8_sample 130 = .ok (.invokestatic 52, 3) := by decide +kernel
theorem dX8_sample_133 : decode cX8_sample 133 = .ok (.lastore, 1) := by decide +kernel
theorem dX8_sample_134 : decode cX8_sample 134 = .ok (.goto 97, 3) := by decide +kernel
theorem dX8_sample_137 : decode cX8_sample 137 = .ok (.aload_n 0, 1) := by decide +kernel
theorem dX8_sample_138 : decode cX8_sample 138 = .ok (.getfield 9, 3) := by decide +kernel
theorem dX8_sample_141 : decode cX8_sample 141 = .ok (.iload 6, 2) := by decide +kernel
theorem dX8_sample_143 : decode cX8_sample 143 = .ok (.iload 8, 2) := by decide +kernel
theorem dX8_sample_145 : decode cX8_sample 145 = .ok (.aload_n 1, 1) := by decide +kernel
theorem dX8_sample_146 : decode cX8_sample 146 = .ok (.aload_n 0, 1) := by decide +kernel
theorem dX8_sample_147 : decode cX8_sample 147 = .ok (.getfield 9, 3) := by decide +kernel
theorem dX8_sample_150 : decode cX8_sample 150 = .ok (.iload 6, 2) := by decide +kernel
theorem dX8_sample_152 : decode cX8_sample 152 = .ok (.iconst 0, 1) := by decide +kernel
theorem dX8_sample_153 : decode cX8_sample 153 = .ok (.invokestatic 56, 3) := by decide +kernel
theorem dX8_sample_156 : decode cX8_sample 156 = .ok (.aload_n 1, 1) := by decide +kernel
theorem dX8_sample_157 : decode cX8_sample 157 = .ok (.aload_n 0, 1) := by decide +kernel
theorem dX8_sample_158 : decode cX8_sample 158 = .ok (.getfield 9, 3) := by decide +kernel
theorem dX8_sample_161 : decode cX8_sample 161 = .ok (.iload 6, 2) := by decide +kernel
theorem dX8_sample_163 : decode cX8_sample 163 = .ok (.iconst 1, 1) := by decide +kernel
theorem dX8_sample_164 : decode cX8_sample 164 = .ok (.invokestatic 56, 3) := by decide +kernel
theorem dX8_sample_167 : decode cX8_sample 167 = .ok (.lconst 1, 1) := by decide +kernel
theorem dX8_sample_168 : decode cX8_sample 168 = .ok (.invokestatic 60, 3) := by decide +kernel
theorem dX8_sample_171 : decode cX8_sample 171 = .ok (.lastore, 1) := by decide +kernel
theorem dX8_sample_172 : decode cX8_sample 172 = .ok (.aload_n 1, 1) := by decide +kernel
theorem dX8_sample_173 : decode cX8_sample 173 = .ok (.aload_n 0, 1) := by decide +kernel
theorem dX8_sample_174 : decode cX8_sample 174 = .ok (.getfield 15, 3) := by decide +kernel
theorem dX8_sample_177 : decode cX8_sample 177 = .ok (.iload 6, 2) := by decide +kernel
theorem dX8_sample_179 : decode cX8_sample 179 = .ok (.iconst 0, 1) := by decide +kernel
theorem dX8_sample_180 : decode cX8_sample 180 = .ok (.invokestatic 56, 3) := by decide +kernel
theorem dX8_sample_183 : decode cX8_sample 183 = .ok (.lconst 1, 1) := by decide +kernel
theorem dX8_sample_184 : decode cX8_sample 184 = .ok (.iload 7, 2) := by decide +kernel
theorem dX8_sample_186 : decode cX8_sample 186 = .ok (.i2l, 1) := by decide +kernel
theorem dX8_sample_187 : decode cX8_sample 187 = .ok (.invokestatic 52, 3) := by decide +kernel
theorem dX8_sample_190 : decode cX8_sample 190 = .ok (.lstore 9, 2) := by decide +kernel
theorem dX8_sample_192 : decode cX8_sample 192 = .ok (.aload_n 1, 1) := by decide +kernel
theorem dX8_sample_193 : decode cX8_sample 193 = .ok (.aload_n 0, 1) := by decide +kernel
theorem dX8_sample_194 : decode cX8_sample 194 = .ok (.getfield 15, 3) := by decide +kernel
theorem dX8_sample_197 : decode cX8_sample 197 = .ok (.iload 6, 2) := by decide +kernel
theorem dX8_sample_199 : decode cX8_sample 199 = .ok (.iconst 1, 1) := by decide +kernel
theorem dX8_sample_200 : decode cX8_sample 200 = .ok (.invokestatic 56, 3) := by decide +kernel
theorem dX8_sample_203 : decode cX8_sample 203 = .ok (.lconst 1, 1) := by decide +kernel
theorem dX8_sample_204 : decode cX8_sample 204 = .ok (.iload 7, 2) := by decide +kernel
theorem dX8_sample_206 : decode cX8_sample 206 = .ok (.i2l, 1) := by decide +kernel
theorem dX8_sample_207 : decode cX8_sample 207 = .ok (.invokestatic 52, 3) := by decide +kernel
theorem dX8_sample_210 : decode cX8_sample 210 = .ok (.lstore 11, 2) := by decide +kernel
theorem dX8_sample_212 : decode cX8_sample 212 = .ok (.aload_n 0, 1) := by decide +kernel
theorem dX8_sample_213 : decode cX8_sample 213 = .ok (.getfield 15, 3) := by decide +kernel
theorem dX8_sample_216 : decode cX8_sample 216 = .ok (.iload 6, 2) := by decide +kernel
theorem dX8_sample_218 : decode cX8_sample 218 = .ok (.iload 8, 2) := by decide +kernel
theorem dX8_sample_220 : decode cX8_sample 220 = .ok (.lload 9, 2) := by decide +kernel
theorem dX8_sample_222 : decode cX8_sample 222 = .ok (.lload 11, 2) := by decide +kernel
theorem dX8_sample_224 : decode cX8_sample 224 = .ok (.iload 7, 2) := by decide +kernel
theorem dX8_sample_226 : decode cX8_sample 226 = .ok (.i2l, 1) := by decide +kernel
theorem dX8_sample_227 : decode cX8_sample 227 = .ok (.invokestatic 60, 3) := by decide +kernel
theorem dX8_sample_230 : decode cX8_sample 230 = .ok (.lastore, 1) := by decide +kernel
theorem dX8_sample_231 : decode cX8_sample 231 = .ok (.iinc 6 1, 3) := by decide +kernel
theorem dX8_sample_234 : decode cX8_sample 234 = .ok (.goto (-227), 3) := by decide +kernel
theorem dX8_sample_237 : decode cX8_sample 237 = .ok (.lload 4, 2) := by decide +kernel
theorem dX8_sample_239 : decode cX8_sample 239 = .ok (.l2i, 1) := by decide +kernel
theorem dX8_sample_240 : decode cX8_sample 240 = .ok (.ireturn, 1) := by decide +kernel
theorem dX8_whatOf_0 : decode cX8_whatOf 0 = .ok (.aload_n 0, 1) := by decide +kernel
theorem dX8_whatOf_1 : decode cX8_whatOf 1 = .ok (.getfield 18, 3) := by decide +kernel
theorem dX8_whatOf_4 : decode cX8_whatOf 4 = .ok (.iload_n 2, 1) := by decide +kernel
theorem dX8_whatOf_5 : decode cX8_whatOf 5 = .ok (.iload_n 3, 1) := by decide +kernel
theorem dX8_whatOf_6 : decode cX8_whatOf 6 = .ok (.invokevirtual 64, 3) := by decide +kernel
theorem dX8_whatOf_9 : decode cX8_whatOf 9 = .ok (.istore 4, 2) := by decide +kernel
theorem dX8_whatOf_11 : decode cX8_whatOf 11 = .ok (.iload 4, 2) := by decide +kernel
theorem dX8_whatOf_13 : decode cX8_whatOf 13 = .ok (.ifCond .lt 16, 3) := by decide +kernel
theorem dX8_whatOf_16 : decode cX8_whatOf 16 = .ok (.iload 4, 2) := by decide +kernel
theorem dX8_whatOf_18 : decode cX8_whatOf 18 = .ok (.iload_n 2, 1) := by decide +kernel
theorem dX8_whatOf_19 : decode cX8_whatOf 19 = .ok (.if_icmp .ge 10, 3) := by decide +kernel
theorem dX8_whatOf_22 : decode cX8_whatOf 22 = .ok (.aload_n 1, 1) := by decide +kernel
theorem dX8_whatOf_23 : decode cX8_whatOf 23 = .ok (.iload 4, 2) := by decide +kernel
theorem dX8_whatOf_25 : decode cX8_whatOf 25 = .ok (.laload, 1) := by decide +kernel
theorem dX8_whatOf_26 : decode cX8_whatOf 26 = .ok (.goto 12, 3) := by decide +kernel
theorem dX8_whatOf_29 : decode cX8_whatOf 29 = .ok (.aload_n 0, 1) := by decide +kernel
theorem dX8_whatOf_30 : decode cX8_whatOf 30 = .ok (.getfield 18, 3) := by decide +kernel
theorem dX8_whatOf_33 : decode cX8_whatOf 33 = .ok (.iload_n 2, 1) := by decide +kernel
theorem dX8_whatOf_34 : decode cX8_whatOf 34 = .ok (.iload_n 3, 1) := by decide +kernel
theorem dX8_whatOf_35 : decode cX8_whatOf 35 = .ok (.invokevirtual 48, 3) := by decide +kernel
theorem dX8_whatOf_38 : decode cX8_whatOf 38 = .ok (.lreturn, 1) := by decide +kernel
theorem dX9_init_0 : decode cX9_init 0 = .ok (.aload_n 0, 1) := by decide +kernel
theorem dX9_init_1 : decode cX9_init 1 = .ok (.invokespecial 3, 3) := by decide +kernel
theorem dX9_init_4 : decode cX9_init 4 = .ok (.aload_n 0, 1) := by decide +kernel
theorem dX9_init_5 : decode cX9_init 5 = .ok (.iconst 4, 1) := by decide +kernel
theorem dX9_init_6 : decode cX9_init 6 = .ok (.newarray .int, 2) := by decide +kernel
theorem dX9_init_8 : decode cX9_init 8 = .ok (.putfield 9, 3) := by decide +kernel
theorem dX9_init_11 : decode cX9_init 11 = .ok (.aload_n 0, 1) := by decide +kernel
theorem dX9_init_12 : decode cX9_init 12 = .ok (.iconst 4, 1) := by decide +kernel
theorem dX9_init_13 : decode cX9_init 13 = .ok (.newarray .int, 2) := by decide +kernel
theorem dX9_init_15 : decode cX9_init 15 = .ok (.putfield 15, 3) := by decide +kernel
theorem dX9_init_18 : decode cX9_init 18 = .ok (.aload_n 0, 1) := by decide +kernel
theorem dX9_init_19 : decode cX9_init 19 = .ok (.iconst 4, 1) := by decide +kernel
theorem dX9_init_20 : decode cX9_init 20 = .ok (.newarray .int, 2) := by decide +kernel
theorem dX9_init_22 : decode cX9_init 22 = .ok (.putfield 18, 3) := by decide +kernel
theorem dX9_init_25 : decode cX9_init 25 = .ok (.aload_n 0, 1) := by decide +kernel
theorem dX9_init_26 : decode cX9_init 26 = .ok (.iconst 4, 1) := by decide +kernel
theorem dX9_init_27 : decode cX9_init 27 = .ok (.newarray .int, 2) := by decide +kernel
theorem dX9_init_29 : decode cX9_init 29 = .ok (.putfield 21, 3) := by decide +kernel
theorem dX9_init_32 : decode cX9_init 32 = .ok (.aload_n 0, 1) := by decide +kernel
theorem dX9_init_33 : decode cX9_init 33 = .ok (.new 24, 3) := by decide +kernel
theorem dX9_init_36 : decode cX9_init 36 = .ok (.dup, 1) := by decide +kernel
theorem dX9_init_37 : decode cX9_init 37 = .ok (.invokespecial 26, 3) := by decide +kernel
theorem dX9_init_40 : decode cX9_init 40 = .ok (.putfield 27, 3) := by decide +kernel
theorem dX9_init_43 : decode cX9_init 43 = .ok (.aload_n 0, 1) := by decide +kernel
theorem dX9_init_44 : decode cX9_init 44 = .ok (.new 31, 3) := by decide +kernel
theorem dX9_init_47 : decode cX9_init 47 = .ok (.dup, 1) := by decide +kernel
theorem dX9_init_48 : decode cX9_init 48 = .ok (.invokespecial 33, 3) := by decide +kernel
theorem dX9_init_51 : decode cX9_init 51 = .ok (.putfield 34, 3) := by decide +kernel
theorem dX9_init_54 : decode cX9_init 54 = .ok (.aload_n 0, 1) := by decide +kernel
theorem dX9_init_55 : decode cX9_init 55 = .ok (.new 38, 3) := by decide +kernel
theorem dX9_init_58 : decode cX9_init 58 = .ok (.dup, 1) := by decide +kernel
theorem dX9_init_59 : decode cX9_init 59 = .ok (.invokespecial 40, 3) := by decide +kernel
theorem dX9_init_62 : decode cX9_init 62 = .ok (.putfield 41, 3) := by decide +kernel
theorem dX9_init_65 : decode cX9_init 65 = .ok (.return_, 1) := by decide +kernel
theorem dX9_clear_0 : decode cX9_clear 0 = .ok (.aload_n 0, 1) := by decide +kernel
theorem dX9_clear_1 : decode cX9_clear 1 = .ok (.iconst 0, 1) := by decide +kernel
theorem dX9_clear_2 : decode cX9_clear 2 = .ok (.putfield 45, 3) := by decide +kernel
theorem dX9_clear_5 : decode cX9_clear 5 = .ok (.aload_n 0, 1) := by decide +kernel
theorem dX9_clear_6 : decode cX9_clear 6 = .ok (.iconst 1, 1) := by decide +kernel
theorem dX9_clear_7 : decode cX9_clear 7 = .ok (.putfield 49, 3) := by decide +kernel
theorem dX9_clear_10 : decode cX9_clear 10 = .ok (.aload_n 0, 1) := by decide +kernel
theorem dX9_clear_11 : decode cX9_clear 11 = .ok (.getfield 27, 3) := by decide +kernel
theorem dX9_clear_14 : decode cX9_clear 14 = .ok (.iconst 0, 1) := by decide +kernel
theorem dX9_clear_15 : decode cX9_clear 15 = .ok (.putfield 52, 3) := by decide +kernel
theorem dX9_clear_18 : decode cX9_clear 18 = .ok (.aload_n 0, 1) := by decide +kernel
theorem dX9_clear_19 : decode cX9_clear 19 = .ok (.getfield 27, 3) := by decide +kernel
theorem dX9_clear_22 : decode cX9_clear 22 = .ok (.iconst 0, 1) := by decide +kernel
theorem dX9_clear_23 : decode cX9_clear 23 = .ok (.putfield 55, 3) := by decide +kernel
theorem dX9_clear_26 : decode cX9_clear 26 = .ok (.return_, 1) := by decide +kernel
theorem dX9_settle_0 : decode cX9_settle 0 = .ok (.aload_n 0, 1) := by decide +kernel
theorem dX9_settle_1 : decode cX9_settle 1 = .ok (.getfield 34, 3) := by decide +kernel
theorem dX9_settle_4 : decode cX9_settle 4 = .ok (.aload_n 0, 1) := by decide +kernel
theorem dX9_settle_5 : decode cX9_settle 5 = .ok (.getfield 27, 3) := by decide +kernel
theorem dX9_settle_8 : decode cX9_settle 8 = .ok (.invokevirtual 58, 3) := by decide +kernel
theorem dX9_settle_11 : decode cX9_settle 11 = .ok (.aload_n 0, 1) := by decide +kernel
theorem dX9_settle_12 : decode cX9_settle 12 = .ok (.getfield 41, 3) := by decide +kernel
theorem dX9_settle_15 : decode cX9_settle 15 = .ok (.aload_n 0, 1) := by decide +kernel
theorem dX9_settle_16 : decode cX9_settle 16 = .ok (.getfield 27, 3) := by decide +kernel
theorem dX9_settle_19 : decode cX9_settle 19 = .ok (.iconst (-1), 1) := by decide +kernel
theorem dX9_settle_20 : decode cX9_settle 20 = .ok (.iconst 0, 1) := by decide +kernel
theorem dX9_settle_21 : decode cX9_settle 21 = .ok (.invokevirtual 62, 3) := by decide +kernel
theorem dX9_settle_24 : decode cX9_settle 24 = .ok (.return_, 1) := by decide +kernel
theorem dX9_addFormat_0 : decode cX9_addFormat 0 = .ok (.aload_n 0, 1) := by decide +kernel
theorem dX9_addFormat_1 : decode cX9_addFormat 1 = .ok (.getfield 45, 3) := by decide +kernel
theorem dX9_addFormat_4 : decode cX9_addFormat 4 = .ok (.iconst 4, 1) := by decide +kernel
theorem dX9_addFormat_5 : decode cX9_addFormat 5 = .ok (.if_icmp .ge 54, 3) := by decide +kernel
theorem dX9_addFormat_8 : decode cX9_addFormat 8 = .ok (.aload_n 0, 1) := by decide +kernel
theorem dX9_addFormat_9 : decode cX9_addFormat 9 = .ok (.getfield 9, 3) := by decide +kernel
theorem dX9_addFormat_12 : decode cX9_addFormat 12 = .ok (.aload_n 0, 1) := by decide +kernel
theorem dX9_addFormat_13 : decode cX9_addFormat 13 = .ok (.getfield 45, 3) := by decide +kernel
theorem dX9_addFormat_16 : decode cX9_addFormat 16 = .ok (.iload_n 1, 1) := by decide +kernel
theorem dX9_addFormat_17 : decode cX9_addFormat 17 = .ok (.iastore, 1) := by decide +kernel
theorem dX9_addFormat_18 : decode cX9_addFormat 18 = .ok (.aload_n 0, 1) := by decide +kernel
theorem dX9_addFormat_19 : decode cX9_addFormat 19 = .ok (.getfield 15, 3) := by decide +kernel
theorem dX9_addFormat_22 : decode cX9_addFormat 22 = .ok (.aload_n 0, 1) := by decide +kernel
theorem dX9_addFormat_23 : decode cX9_addFormat 23 = .ok (.getfield 45, 3) := by decide +kernel
theorem dX9_addFormat_26 : decode cX9_addFormat 26 = .ok (.iload_n 2, 1) := by decide +kernel
theorem dX9_addFormat_27 : decode cX9_addFormat 27 = .ok (.iastore, 1) := by decide +kernel
theorem dX9_addFormat_28 : decode cX9_addFormat 28 = .ok (.aload_n 0, 1) := by decide +kernel
theorem dX9_addFormat_29 : decode cX9_addFormat 29 = .ok (.getfield 18, 3) := by decide +kernel
theorem dX9_addFormat_32 : decode cX9_addFormat 32 = .ok (.aload_n 0, 1) := by decide +kernel
theorem dX9_addFormat_33 : decode cX9_addFormat 33 = .ok (.getfield 45, 3) := by decide +kernel
theorem dX9_addFormat_36 : decode cX9_addFormat 36 = .ok (.iload_n 3, 1) := by decide +kernel
theorem dX9_addFormat_37 : decode cX9_addFormat 37 = .ok (.iastore, 1) := by decide +kernel
theorem dX9_addFormat_38 : decode cX9_addFormat 38 = .ok (.aload_n 0, 1) := by decide +kernel
theorem dX9_addFormat_39 : decode cX9_addFormat 39 = .ok (.getfield 21, 3) := by decide +kernel
theorem dX9_addFormat_42 : decode cX9_addFormat 42 = .ok (.aload_n 0, 1) := by decide +kernel
theorem dX9_addFormat_43 : decode cX9_addFormat 43 = .ok (.getfield 45, 3) := by decide +kernel
theorem dX9_addFormat_46 : decode cX9_addFormat 46 = .ok (.iload 4, 2) := by decide +kernel
theorem dX9_addFormat_48 : decode cX9_addFormat 48 = .ok (.iastore, 1) := by decide +kernel
theorem dX9_addFormat_49 : decode cX9_addFormat 49 = .ok (.aload_n 0, 1) := by decide +kernel
theorem dX9_addFormat_50 : decode cX9_addFormat 50 = .ok (.dup, 1) := by decide +kernel
theorem dX9_addFormat_51 : decode cX9_addFormat 51 = .ok (.getfield 45, 3) := by decide +kernel
theorem dX9_addFormat_54 : decode cX9_addFormat 54 = .ok (.iconst 1, 1) := by decide +kernel
theorem dX9_addFormat_55 : decode cX9_addFormat 55 = .ok (.iadd, 1) := by decide +kernel
theorem dX9_addFormat_56 : decode cX9_addFormat 56 = .ok (.putfield 45, 3) := by decide +kernel
theorem dX9_addFormat_59 : decode cX9_addFormat 59 = .ok (.return_, 1) := by decide +kernel
theorem dX9_findFormat_0 : decode cX9_findFormat 0 = .ok (.iconst 0, 1) := by decide +kernel
theorem dX9_findFormat_1 : decode cX9_findFormat 1 = .ok (.istore_n 2, 1) := by decide +kernel
theorem dX9_findFormat_2 : decode cX9_findFormat 2 = .ok (.iload_n 2, 1) := by decide +kernel
theorem dX9_findFormat_3 : decode cX9_findFormat 3 = .ok (.aload_n 0, 1) := by decide +kernel
theorem dX9_findFormat_4 : decode cX9_findFormat 4 = .ok (.getfield 45, 3) := by decide +kernel
theorem dX9_findFormat_7 : decode cX9_findFormat 7 = .ok (.if_icmp .ge 21, 3) := by decide +kernel
theorem dX9_findFormat_10 : decode cX9_findFormat 10 = .ok (.aload_n 0, 1) := by decide +kernel
theorem dX9_findFormat_11 : decode cX9_findFormat 11 = .ok (.getfield 9, 3) := by decide +kernel
theorem dX9_findFormat_14 : decode cX9_findFormat 14 = .ok (.iload_n 2, 1) := by decide +kernel
theorem dX9_findFormat_15 : decode cX9_findFormat 15 = .ok (.iaload, 1) := by decide +kernel
theorem dX9_findFormat_16 : decode cX9_findFormat 16 = .ok (.iload_n 1, 1) := by decide +kernel
theorem dX9_findFormat_17 : decode cX9_findFormat 17 = .ok (.if_icmp .ne 5, 3) := by decide +kernel
theorem dX9_findFormat_20 : decode cX9_findFormat 20 = .ok (.iload_n 2, 1) := by decide +kernel
theorem dX9_findFormat_21 : decode cX9_findFormat 21 = .ok (.ireturn, 1) := by decide +kernel
theorem dX9_findFormat_22 : decode cX9_findFormat 22 = .ok (.iinc 2 1, 3) := by decide +kernel
theorem dX9_findFormat_25 : decode cX9_findFormat 25 = .ok (.goto (-23), 3) := by decide +kernel
theorem dX9_findFormat_28 : decode cX9_findFormat 28 = .ok (.iconst (-1), 1) := by decide +kernel
theorem dX9_findFormat_29 : decode cX9_findFormat 29 = .ok (.ireturn, 1) := by decide +kernel
theorem dX9_hasFormat_0 : decode cX9_hasFormat 0 = .ok (.iload_n 1, 1) := by decide +kernel
theorem dX9_hasFormat_1 : decode cX9_hasFormat 1 = .ok (.ifCond .lt 15, 3) := by decide +kernel
theorem dX9_hasFormat_4 : decode cX9_hasFormat 4 = .ok (.iload_n 1, 1) := by decide +kernel
theorem dX9_hasFormat_5 : decode cX9_hasFormat 5 = .ok (.aload_n 0, 1) := by decide +kernel
theorem dX9_hasFormat_6 : decode cX9_hasFormat 6 = .ok (.getfield 45, 3) := by decide +kernel
theorem dX9_hasFormat_9 : decode cX9_hasFormat 9 = .ok (.if_icmp .ge 7, 3) := by decide +kernel
theorem dX9_hasFormat_12 : decode cX9_hasFormat 12 = .ok (.iconst 1, 1) := by decide +kernel
theorem dX9_hasFormat_13 : decode cX9_hasFormat 13 = .ok (.goto 4, 3) := by decide +kernel
theorem dX9_hasFormat_16 : decode cX9_hasFormat 16 = .ok (.iconst 0, 1) := by decide +kernel
theorem dX9_hasFormat_17 : decode cX9_hasFormat 17 = .ok (.ireturn, 1) := by decide +kernel
theorem dX9_hasNumber_0 : decode cX9_hasNumber 0 = .ok (.iload_n 1, 1) := by decide +kernel
theorem dX9_hasNumber_1 : decode cX9_hasNumber 1 = .ok (.ifCond .lt 18, 3) := by decide +kernel
theorem dX9_hasNumber_4 : decode cX9_hasNumber 4 = .ok (.iload_n 1, 1) := by decide +kernel
theorem dX9_hasNumber_5 : decode cX9_hasNumber 5 = .ok (.aload_n 0, 1) := by decide +kernel
theorem dX9_hasNumber_6 : decode cX9_hasNumber 6 = .ok (.getfield 27, 3) := by decide +kernel
theorem dX9_hasNumber_9 : decode cX9_hasNumber 9 = .ok (.getfield 52, 3) := by decide +kernel
theorem dX9_hasNumber_12 : decode cX9_hasNumber 12 = .ok (.if_icmp .ge 7, 3) := by decide +kernel
theorem dX9_hasNumber_15 : decode cX9_hasNumber 15 = .ok (.iconst 1, 1) := by decide +kernel
theorem dX9_hasNumber_16 : decode cX9_hasNumber 16 = .ok (.goto 4, 3) := by decide +kernel
theorem dX9_hasNumber_19 : decode cX9_hasNumber 19 = .ok (.iconst 0, 1) := by decide +kernel
theorem dX9_hasNumber_20 : decode cX9_hasNumber 20 = .ok (.ireturn, 1) := by decide +kernel
theorem dX9_hasChoice_0 : decode cX9_hasChoice 0 = .ok (.aload_n 0, 1) := by decide +kernel
theorem dX9_hasChoice_1 : decode cX9_hasChoice 1 = .ok (.getfield 27, 3) := by decide +kernel
theorem dX9_hasChoice_4 : decode cX9_hasChoice 4 = .ok (.getfield 52, 3) := by decide +kernel
theorem dX9_hasChoice_7 : decode cX9_hasChoice 7 = .ok (.ifCond .le 17, 3) := by decide +kernel
theorem dX9_hasChoice_10 : decode cX9_hasChoice 10 = .ok (.aload_n 0, 1) := by decide +kernel
theorem dX9_hasChoice_11 : decode cX9_hasChoice 11 = .ok (.getfield 34, 3) := by decide +kernel
theorem dX9_hasChoice_14 : decode cX9_hasChoice 14 = .ok (.getfield 66, 3) := by decide +kernel
theorem dX9_hasChoice_17 : decode cX9_hasChoice 17 = .ok (.ifCond .ne 7, 3) := by decide +kernel
theorem dX9_hasChoice_20 : decode cX9_hasChoice 20 = .ok (.iconst 1, 1) := by decide +kernel
theorem dX9_hasChoice_21 : decode cX9_hasChoice 21 = .ok (.goto 4, 3) := by decide +kernel
theorem dX9_hasChoice_24 : decode cX9_hasChoice 24 = .ok (.iconst 0, 1) := by decide +kernel
theorem dX9_hasChoice_25 : decode cX9_hasChoice 25 = .ok (.ireturn, 1) := by decide +kernel
theorem dX9_isAnswer_0 : decode cX9_isAnswer 0 = .ok (.aload_n 0, 1) := by decide +kernel
theorem dX9_isAnswer_1 : decode cX9_isAnswer 1 = .ok (.iload_n 1, 1) := by decide +kernel
theorem dX9_isAnswer_2 : decode cX9_isAnswer 2 = .ok (.invokevirtual 70, 3) := by decide +kernel
theorem dX9_isAnswer_5 : decode cX9_isAnswer 5 = .ok (.ifCond .eq 20, 3) := by decide +kernel
theorem dX9_isAnswer_8 : decode cX9_isAnswer 8 = .ok (.aload_n 0, 1) := by decide +kernel
theorem dX9_isAnswer_9 : decode cX9_isAnswer 9 = .ok (.getfield 27, 3) := by decide +kernel
theorem dX9_isAnswer_12 : decode cX9_isAnswer 12 = .ok (.getfield 74, 3) := by decide +kernel
theorem dX9_isAnswer_15 : decode cX9_isAnswer 15 = .ok (.iload_n 1, 1) := by decide +kernel
theorem dX9_isAnswer_16 : decode cX9_isAnswer 16 = .ok (.iaload, 1) := by decide +kernel
theorem dX9_isAnswer_17 : decode cX9_isAnswer 17 = .ok (.iconst (-1), 1) := by decide +kernel
theorem dX9_isAnswer_18 : decode cX9_isAnswer 18 = .ok (.if_icmp .eq 7, 3) := by decide +kernel
theorem dX9_isAnswer_21 : decode cX9_isAnswer 21 = .ok (.iconst 1, 1) := by decide +kernel
theorem dX9_isAnswer_22 : decode cX9_isAnswer 22 = .ok (.goto 4, 3) := by decide +kernel
theorem dX9_isAnswer_25 : decode cX9_isAnswer 25 = .ok (.iconst 0, 1) := by decide +kernel
theorem dX9_isAnswer_26 : decode cX9_isAnswer 26 = .ok (.ireturn, 1) := by decide +kernel
theorem dX9_isInput_0 : decode cX9_isInput 0 = .ok (.aload_n 0, 1) := by decide +kernel
theorem dX9_isInput_1 : decode cX9_isInput 1 = .ok (.iload_n 1, 1) := by decide +kernel
theorem dX9_isInput_2 : decode cX9_isInput 2 = .ok (.invokevirtual 70, 3) := by decide +kernel
theorem dX9_isInput_5 : decode cX9_isInput 5 = .ok (.ifCond .eq 19, 3) := by decide +kernel
theorem dX9_isInput_8 : decode cX9_isInput 8 = .ok (.aload_n 0, 1) := by decide +kernel
theorem dX9_isInput_9 : decode cX9_isInput 9 = .ok (.getfield 27, 3) := by decide +kernel
theorem dX9_isInput_12 : decode cX9_isInput 12 = .ok (.getfield 77, 3) := by decide +kernel
theorem dX9_isInput_15 : decode cX9_isInput 15 = .ok (.iload_n 1, 1) := by decide +kernel
theorem dX9_isInput_16 : decode cX9_isInput 16 = .ok (.iaload, 1) := by decide +kernel
theorem dX9_isInput_17 : decode cX9_isInput 17 = .ok (.ifCond .ne 7, 3) := by decide +kernel
theorem dX9_isInput_20 : decode cX9_isInput 20 = .ok (.iconst 1, 1) := by decide +kernel
theorem dX9_isInput_21 : decode cX9_isInput 21 = .ok (.goto 4, 3) := by decide +kernel
theorem dX9_isInput_24 : decode cX9_isInput 24 = .ok (.iconst 0, 1) := by decide +kernel
theorem dX9_isInput_25 : decode cX9_isInput 25 = .ok (.ireturn, 1) := by decide +kernel
theorem dX9_isFree_0 : decode cX9_isFree 0 = .ok (.aload_n 0, 1) := by decide +kernel
theorem dX9_isFree_1 : decode cX9_isFree 1 = .ok (.iload_n 1, 1) := by decide +kernel
theorem dX9_isFree_2 : decode cX9_isFree 2 = .ok (.invokevirtual 70, 3) := by decide +kernel
theorem dX9_isFree_5 : decode cX9_isFree 5 = .ok (.ifCond .eq 26, 3) := by decide +kernel
theorem dX9_isFree_8 : decode cX9_isFree 8 = .ok (.aload_n 0, 1) := by decide +kernel
theorem dX9_isFree_9 : decode cX9_isFree 9 = .ok (.getfield 34, 3) := by decide +kernel
theorem dX9_isFree_12 : decode cX9_isFree 12 = .ok (.aload_n 0, 1) := by decide +kernel
theorem dX9_isFree_13 : decode cX9_isFree 13 = .ok (.getfield 34, 3) := by decide +kernel
theorem dX9_isFree_16 : decode cX9_isFree 16 = .ok (.getfield 80, 3) := by decide +kernel
theorem dX9_isFree_19 : decode cX9_isFree 19 = .ok (.iload_n 1, 1) := by decide +kernel
theorem dX9_isFree_20 : decode cX9_isFree 20 = .ok (.iaload, 1) := by decide +kernel
theorem dX9_isFree_21 : decode cX9_isFree 21 = .ok (.invokevirtual 83, 3) := by decide +kernel
theorem dX9_isFree_24 : decode cX9_isFree 24 = .ok (.ifCond .eq 7, 3) := by decide +kernel
theorem dX9_isFree_27 : decode cX9_isFree 27 = .ok (.iconst 1, 1) := by decide +kernel
theorem dX9_isFree_28 : decode cX9_isFree 28 = .ok (.goto 4, 3) := by decide +kernel
theorem dX9_isFree_31 : decode cX9_isFree 31 = .ok (.iconst 0, 1) := by decide +kernel
theorem dX9_isFree_32 : decode cX9_isFree 32 = .ok (.ireturn, 1) := by decide +kernel
theorem dX9_formatOf_0 : decode cX9_formatOf 0 = .ok (.iload_n 2, 1) := by decide +kernel
theorem dX9_formatOf_1 : decode cX9_formatOf 1 = .ok (.ifCond .lt 26, 3) := by decide +kernel
theorem dX9_formatOf_4 : decode cX9_formatOf 4 = .ok (.iload_n 2, 1) := by decide +kernel
theorem dX9_formatOf_5 : decode cX9_formatOf 5 = .ok (.aload_n 0, 1) := by decide +kernel
theorem dX9_formatOf_6 : decode cX9_formatOf 6 = .ok (.getfield 27, 3) := by decide +kernel
theorem dX9_formatOf_9 : decode cX9_formatOf 9 = .ok (.getfield 52, 3) := by decide +kernel
theorem dX9_formatOf_12 : decode cX9_formatOf 12 = .ok (.if_icmp .ge 15, 3) := by decide +kernel
theorem dX9_formatOf_15 : decode cX9_formatOf 15 = .ok (.aload_n 0, 1) := by decide +kernel
theorem dX9_formatOf_16 : decode cX9_formatOf 16 = .ok (.getfield 34, 3) := by decide +kernel
theorem dX9_formatOf_19 : decode cX9_formatOf 19 = .ok (.getfield 80, 3) := by decide +kernel
theorem dX9_formatOf_22 : decode cX9_formatOf 22 = .ok (.iload_n 2, 1) := by decide +kernel
theorem dX9_formatOf_23 : decode cX9_formatOf 23 = .ok (.iaload, 1) := by decide +kernel
theorem dX9_formatOf_24 : decode cX9_formatOf 24 = .ok (.goto 4, 3) := by decide +kernel
theorem dX9_formatOf_27 : decode cX9_formatOf 27 = .ok (.iconst (-1), 1) := by decide +kernel
theorem dX9_formatOf_28 : decode cX9_formatOf 28 = .ok (.istore_n 3, 1) := by decide +kernel
theorem dX9_formatOf_29 : decode cX9_formatOf 29 = .ok (.iload_n 3, 1) := by decide +kernel
theorem dX9_formatOf_30 : decode cX9_formatOf 30 = .ok (.ifCond .lt 15, 3) := by decide +kernel
theorem dX9_formatOf_33 : decode cX9_formatOf 33 = .ok (.iload_n 3, 1) := by decide +kernel
theorem dX9_formatOf_34 : decode cX9_formatOf 34 = .ok (.aload_n 1, 1) := by decide +kernel
theorem dX9_formatOf_35 : decode cX9_formatOf 35 = .ok (.arraylength, 1) := by decide +kernel
theorem dX9_formatOf_36 : decode cX9_formatOf 36 = .ok (.if_icmp .ge 9, 3) := by decide +kernel
theorem dX9_formatOf_39 : decode cX9_formatOf 39 = .ok (.aload_n 1, 1) := by decide +kernel
theorem dX9_formatOf_40 : decode cX9_formatOf 40 = .ok (.iload_n 3, 1) := by decide +kernel
theorem dX9_formatOf_41 : decode cX9_formatOf 41 = .ok (.iaload, 1) := by decide +kernel
theorem dX9_formatOf_42 : decode cX9_formatOf 42 = .ok (.goto 4, 3) := by decide +kernel
theorem dX9_formatOf_45 : decode cX9_formatOf 45 = .ok (.iconst (-1), 1) := by decide +kernel
theorem dX9_formatOf_46 : decode cX9_formatOf 46 = .ok (.ireturn, 1) := by decide +kernel
theorem dX9_stepOf_0 : decode cX9_stepOf 0 = .ok (.iload_n 1, 1) := by decide +kernel
theorem dX9_stepOf_1 : decode cX9_stepOf 1 = .ok (.ifCond .lt 20, 3) := by decide +kernel
theorem dX9_stepOf_4 : decode cX9_stepOf 4 = .ok (.iload_n 1, 1) := by decide +kernel
theorem dX9_stepOf_5 : decode cX9_stepOf 5 = .ok (.aload_n 0, 1) := by decide +kernel
theorem dX9_stepOf_6 : decode cX9_stepOf 6 = .ok (.getfield 45, 3) := by decide +kernel
theorem dX9_stepOf_9 : decode cX9_stepOf 9 = .ok (.if_icmp .ge 12, 3) := by decide +kernel
theorem dX9_stepOf_12 : decode cX9_stepOf 12 = .ok (.aload_n 0, 1) := by decide +kernel
theorem dX9_stepOf_13 : decode cX9_stepOf 13 = .ok (.getfield 15, 3) := by decide +kernel
theorem dX9_stepOf_16 : decode cX9_stepOf 16 = .ok (.iload_n 1, 1) := by decide +kernel
theorem dX9_stepOf_17 : decode cX9_stepOf 17 = .ok (.iaload, 1) := by decide +kernel
theorem dX9_stepOf_18 : decode cX9_stepOf 18 = .ok (.goto 4, 3) := by decide +kernel
theorem dX9_stepOf_21 : decode cX9_stepOf 21 = .ok (.iconst 1, 1) := by decide +kernel
theorem dX9_stepOf_22 : decode cX9_stepOf 22 = .ok (.ireturn, 1) := by decide +kernel
theorem dX9_mostOf_0 : decode cX9_mostOf 0 = .ok (.iload_n 1, 1) := by decide +kernel
theorem dX9_mostOf_1 : decode cX9_mostOf 1 = .ok (.ifCond .lt 20, 3) := by decide +kernel
theorem dX9_mostOf_4 : decode cX9_mostOf 4 = .ok (.iload_n 1, 1) := by decide +kernel
theorem dX9_mostOf_5 : decode cX9_mostOf 5 = .ok (.aload_n 0, 1) := by decide +kernel
theorem dX9_mostOf_6 : decode cX9_mostOf 6 = .ok (.getfield 45, 3) := by decide +kernel
theorem dX9_mostOf_9 : decode cX9_mostOf 9 = .ok (.if_icmp .ge 12, 3) := by decide +kernel
theorem dX9_mostOf_12 : decode cX9_mostOf 12 = .ok (.aload_n 0, 1) := by decide +kernel
theorem dX9_mostOf_13 : decode cX9_mostOf 13 = .ok (.getfield 18, 3) := by decide +kernel
theorem dX9_mostOf_16 : decode cX9_mostOf 16 = .ok (.iload_n 1, 1) := by decide +kernel
theorem dX9_mostOf_17 : decode cX9_mostOf 17 = .ok (.iaload, 1) := by decide +kernel
theorem dX9_mostOf_18 : decode cX9_mostOf 18 = .ok (.goto 4, 3) := by decide +kernel
theorem dX9_mostOf_21 : decode cX9_mostOf 21 = .ok (.iconst 0, 1) := by decide +kernel
theorem dX9_mostOf_22 : decode cX9_mostOf 22 = .ok (.ireturn, 1) := by decide +kernel
theorem dX9_finestFormat_0 : decode cX9_finestFormat 0 = .ok (.iconst 0, 1) := by decide +kernel
theorem dX9_finestFormat_1 : decode cX9_finestFormat 1 = .ok (.istore_n 1, 1) := by decide +kernel
theorem dX9_finestFormat_2 : decode cX9_finestFormat 2 = .ok (.iconst 1, 1) := by decide +kernel
theorem dX9_finestFormat_3 : decode cX9_finestFormat 3 = .ok (.istore_n 2, 1) := by decide +kernel
theorem dX9_finestFormat_4 : decode cX9_finestFormat 4 = .ok (.iload_n 2, 1) := by decide +kernel
theorem dX9_finestFormat_5 : decode cX9_finestFormat 5 = .ok (.aload_n 0, 1) := by decide +kernel
theorem dX9_finestFormat_6 : decode cX9_finestFormat 6 = .ok (.getfield 45, 3) := by decide +kernel
theorem dX9_finestFormat_9 : decode cX9_finestFormat 9 = .ok (.if_icmp .ge 26, 3) := by decide +kernel
theorem dX9_finestFormat_12 : decode cX9_finestFormat 12 = .ok (.aload_n 0, 1) := by decide +kernel
theorem dX9_finestFormat_13 : decode cX9_finestFormat 13 = .ok (.getfield 15, 3) := by decide +kernel
theorem dX9_finestFormat_16 : decode cX9_finestFormat 16 = .ok (.iload_n 2, 1) := by decide +kernel
theorem dX9_finestFormat_17 : decode cX9_finestFormat 17 = .ok (.iaload, 1) := by decide +kernel
theorem dX9_finestFormat_18 : decode cX9_finestFormat 18 = .ok (.aload_n 0, 1) := by decide +kernel
theorem dX9_finestFormat_19 : decode cX9_finestFormat 19 = .ok (.getfield 15, 3) := by decide +kernel
theorem dX9_finestFormat_22 : decode cX9_finestFormat 22 = .ok (.iload_n 1, 1) := by decide +kernel
theorem dX9_finestFormat_23 : decode cX9_finestFormat 23 = .ok (.iaload, 1) := by decide +kernel
theorem dX9_finestFormat_24 : decode cX9_finestFormat 24 = .ok (.if_icmp .ge 5, 3) := by decide +kernel
theorem dX9_finestFormat_27 : decode cX9_finestFormat 27 = .ok (.iload_n 2, 1) := by decide +kernel
theorem dX9_finestFormat_28 : decode cX9_finestFormat 28 = .ok (.istore_n 1, 1) := by decide +kernel
theorem dX9_finestFormat_29 : decode cX9_finestFormat 29 = .ok (.iinc 2 1, 3) := by decide +kernel
theorem dX9_finestFormat_32 : decode cX9_finestFormat 32 = .ok (.goto (-28), 3) := by decide +kernel
theorem dX9_finestFormat_35 : decode cX9_finestFormat 35 = .ok (.iload_n 1, 1) := by decide +kernel
theorem dX9_finestFormat_36 : decode cX9_finestFormat 36 = .ok (.ireturn, 1) := by decide +kernel
theorem dX9_castsOf_0 : decode cX9_castsOf 0 = .ok (.iconst 0, 1) := by decide +kernel
theorem dX9_castsOf_1 : decode cX9_castsOf 1 = .ok (.istore_n 2, 1) := by decide +kernel
theorem dX9_castsOf_2 : decode cX9_castsOf 2 = .ok (.iconst 0, 1) := by decide +kernel
theorem dX9_castsOf_3 : decode cX9_castsOf 3 = .ok (.istore_n 3, 1) := by decide +kernel
theorem dX9_castsOf_4 : decode cX9_castsOf 4 = .ok (.iload_n 3, 1) := by decide +kernel
theorem dX9_castsOf_5 : decode cX9_castsOf 5 = .ok (.aload_n 0, 1) := by decide +kernel
theorem dX9_castsOf_6 : decode cX9_castsOf 6 = .ok (.getfield 27, 3) := by decide +kernel
theorem dX9_castsOf_9 : decode cX9_castsOf 9 = .ok (.getfield 52, 3) := by decide +kernel
theorem dX9_castsOf_12 : decode cX9_castsOf 12 = .ok (.if_icmp .ge 61, 3) := by decide +kernel
theorem dX9_castsOf_15 : decode cX9_castsOf 15 = .ok (.iconst 0, 1) := by decide +kernel
theorem dX9_castsOf_16 : decode cX9_castsOf 16 = .ok (.istore 4, 2) := by decide +kernel
theorem dX9_castsOf_18 : decode cX9_castsOf 18 = .ok (.iload 4, 2) := by decide +kernel
theorem dX9_castsOf_20 : decode cX9_castsOf 20 = .ok (.iconst 2, 1) := by decide +kernel
theorem dX9_castsOf_21 : decode cX9_castsOf 21 = .ok (.if_icmp .ge 46, 3) := by decide +kernel
theorem dX9_castsOf_24 : decode cX9_castsOf 24 = .ok (.aload_n 0, 1) := by decide +kernel
theorem dX9_castsOf_25 : decode cX9_castsOf 25 = .ok (.getfield 27, 3) := by decide +kernel
theorem dX9_castsOf_28 : decode cX9_castsOf 28 = .ok (.iload_n 3, 1) := by decide +kernel
theorem dX9_castsOf_29 : decode cX9_castsOf 29 = .ok (.iload 4, 2) := by decide +kernel
theorem dX9_castsOf_31 : decode cX9_castsOf 31 = .ok (.invokevirtual 86, 3) := by decide +kernel
theorem dX9_castsOf_34 : decode cX9_castsOf 34 = .ok (.istore 5, 2) := by decide +kernel
theorem dX9_castsOf_36 : decode cX9_castsOf 36 = .ok (.iload 5, 2) := by decide +kernel
theorem dX9_castsOf_38 : decode cX9_castsOf 38 = .ok (.iconst (-1), 1) := by decide +kernel
theorem dX9_castsOf_39 : decode cX9_castsOf 39 = .ok (.if_icmp .eq 22, 3) := by decide +kernel
theorem dX9_castsOf_42 : decode cX9_castsOf 42 = .ok (.aload_n 0, 1) := by decide +kernel
theorem dX9_castsOf_43 : decode cX9_castsOf 43 = .ok (.aload_n 1, 1) := by decide +kernel
theorem dX9_castsOf_44 : decode cX9_castsOf 44 = .ok (.iload 5, 2) := by decide +kernel
theorem dX9_castsOf_46 : decode cX9_castsOf 46 = .ok (.invokevirtual 90, 3) := by decide +kernel
theorem dX9_castsOf_49 : decode cX9_castsOf 49 = .ok (.aload_n 0, 1) := by decide +kernel
theorem dX9_castsOf_50 : decode cX9_castsOf 50 = .ok (.aload_n 1, 1) := by decide +kernel
theorem dX9_castsOf_51 : decode cX9_castsOf 51 = .ok (.iload_n 3, 1) := by decide +kernel
theorem dX9_castsOf_52 : decode cX9_castsOf 52 = .ok (.invokevirtual 90, 3) := by decide +kernel
theorem dX9_castsOf_55 : decode cX9_castsOf 55 = .ok (.if_icmp .eq 6, 3) := by decide +kernel
theorem dX9_castsOf_58 : decode cX9_castsOf 58 = .ok (.iinc 2 1, 3) := by decide +kernel
theorem dX9_castsOf_61 : decode cX9_castsOf 61 = .ok (.iinc 4 1, 3) := by decide +kernel
theorem dX9_castsOf_64 : decode cX9_castsOf 64 = .ok (.goto (-46), 3) := by decide +kernel
theorem dX9_castsOf_67 : decode cX9_castsOf 67 = .ok (.iinc 3 1, 3) := by decide +kernel
theorem dX9_castsOf_70 : decode cX9_castsOf 70 = .ok (.goto (-66), 3) := by decide +kernel
theorem dX9_castsOf_73 : decode cX9_castsOf 73 = .ok (.iload_n 2, 1) := by decide +kernel
theorem dX9_castsOf_74 : decode cX9_castsOf 74 = .ok (.ireturn, 1) := by decide +kernel
theorem dX9_priceOf_0 : decode cX9_priceOf 0 = .ok (.aload_n 0, 1) := by decide +kernel
theorem dX9_priceOf_1 : decode cX9_priceOf 1 = .ok (.getfield 49, 3) := by decide +kernel
theorem dX9_priceOf_4 : decode cX9_priceOf 4 = .ok (.aload_n 0, 1) := by decide +kernel
theorem dX9_priceOf_5 : decode cX9_priceOf 5 = .ok (.aload_n 1, 1) := by decide +kernel
theorem dX9_priceOf_6 : decode cX9_priceOf 6 = .ok (.invokevirtual 94, 3) := by decide +kernel
theorem dX9_priceOf_9 : decode cX9_priceOf 9 = .ok (.imul, 1) := by decide +kernel
theorem dX9_priceOf_10 : decode cX9_priceOf 10 = .ok (.istore_n 2, 1) := by decide +kernel
theorem dX9_priceOf_11 : decode cX9_priceOf 11 = .ok (.iconst 0, 1) := by decide +kernel
theorem dX9_priceOf_12 : decode cX9_priceOf 12 = .ok (.istore_n 3, 1) := by decide +kernel
theorem dX9_priceOf_13 : decode cX9_priceOf 13 = .ok (.iload_n 3, 1) := by decide +kernel
theorem dX9_priceOf_14 : decode cX9_priceOf 14 = .ok (.aload_n 0, 1) := by decide +kernel
theorem dX9_priceOf_15 : decode cX9_priceOf 15 = .ok (.getfield 27, 3) := by decide +kernel
theorem dX9_priceOf_18 : decode cX9_priceOf 18 = .ok (.getfield 52, 3) := by decide +kernel
theorem dX9_priceOf_21 : decode cX9_priceOf 21 = .ok (.if_icmp .ge 40, 3) := by decide +kernel
theorem dX9_priceOf_24 : decode cX9_priceOf 24 = .ok (.aload_n 0, 1) := by decide +kernel
theorem dX9_priceOf_25 : decode cX9_priceOf 25 = .ok (.aload_n 1, 1) := by decide +kernel
theorem dX9_priceOf_26 : decode cX9_priceOf 26 = .ok (.iload_n 3, 1) := by decide +kernel
theorem dX9_priceOf_27 : decode cX9_priceOf 27 = .ok (.invokevirtual 90, 3) := by decide +kernel
theorem dX9_priceOf_30 : decode cX9_priceOf 30 = .ok (.istore 4, 2) := by decide +kernel
theorem dX9_priceOf_32 : decode cX9_priceOf 32 = .ok (.iload_n 2, 1) := by decide +kernel
theorem dX9_priceOf_33 : decode cX9_priceOf 33 = .ok (.aload_n 0, 1) := by decide +kernel
theorem dX9_priceOf_34 : decode cX9_priceOf 34 = .ok (.iload 4, 2) := by decide +kernel
theorem dX9_priceOf_36 : decode cX9_priceOf 36 = .ok (.invokevirtual 98, 3) := by decide +kernel
theorem dX9_priceOf_39 : decode cX9_priceOf 39 = .ok (.ifCond .eq 13, 3) := by decide +kernel
theorem dX9_priceOf_42 : decode cX9_priceOf 42 = .ok (.aload_n 0, 1) := by decide +kernel
theorem dX9_priceOf_43 : decode cX9_priceOf 43 = .ok (.getfield 21, 3) := by decide +kernel
theorem dX9_priceOf_46 : decode cX9_priceOf 46 = .ok (.iload 4, 2) := by decide +kernel
theorem dX9_priceOf_48 : decode cX9_priceOf 48 = .ok (.iaload, 1) := by decide +kernel
theorem dX9_priceOf_49 : decode cX9_priceOf 49 = .ok (.goto 4, 3) := by decide +kernel
theorem dX9_priceOf_52 : decode cX9_priceOf 52 = .ok (.iconst 0, 1) := by decide +kernel
theorem dX9_priceOf_53 : decode cX9_priceOf 53 = .ok (.iadd, 1) := by decide +kernel
theorem dX9_priceOf_54 : decode cX9_priceOf 54 = .ok (.istore_n 2, 1) := by decide +kernel
theorem dX9_priceOf_55 : decode cX9_priceOf 55 = .ok (.iinc 3 1, 3) := by decide +kernel
theorem dX9_priceOf_58 : decode cX9_priceOf 58 = .ok (.goto (-45), 3) := by decide +kernel
theorem dX9_priceOf_61 : decode cX9_priceOf 61 = .ok (.iload_n 2, 1) := by decide +kernel
theorem dX9_priceOf_62 : decode cX9_priceOf 62 = .ok (.ireturn, 1) := by decide +kernel
theorem dX10_init_0 : decode cX10_init 0 = .ok (.aload_n 0, 1) := by decide +kernel
theorem dX10_init_1 : decode cX10_init 1 = .ok (.invokespecial 3, 3) := by decide +kernel
theorem dX10_init_4 : decode cX10_init 4 = .ok (.aload_n 0, 1) := by decide +kernel
theorem dX10_init_5 : decode cX10_init 5 = .ok (.bipush 13, 2) := by decide +kernel
theorem dX10_init_7 : decode cX10_init 7 = .ok (.newarray .int, 2) := by decide +kernel
theorem dX10_init_9 : decode cX10_init 9 = .ok (.putfield 11, 3) := by decide +kernel
theorem dX10_init_12 : decode cX10_init 12 = .ok (.aload_n 0, 1) := by decide +kernel
theorem dX10_init_13 : decode cX10_init 13 = .ok (.iconst 0, 1) := by decide +kernel
theorem dX10_init_14 : decode cX10_init 14 = .ok (.newarray .byte, 2) := by decide +kernel
theorem dX10_init_16 : decode cX10_init 16 = .ok (.putfield 15, 3) := by decide +kernel
theorem dX10_init_19 : decode cX10_init 19 = .ok (.iconst 0, 1) := by decide +kernel
theorem dX10_init_20 : decode cX10_init 20 = .ok (.istore_n 1, 1) := by decide +kernel
theorem dX10_init_21 : decode cX10_init 21 = .ok (.iload_n 1, 1) := by decide +kernel
theorem dX10_init_22 : decode cX10_init 22 = .ok (.bipush 13, 2) := by decide +kernel
theorem dX10_init_24 : decode cX10_init 24 = .ok (.if_icmp .ge 85, 3) := by decide +kernel
theorem dX10_init_27 : decode cX10_init 27 = .ok (.iconst 0, 1) := by decide +kernel
theorem dX10_init_28 : decode cX10_init 28 = .ok (.istore_n 2, 1) := by decide +kernel
theorem dX10_init_29 : decode cX10_init 29 = .ok (.iload_n 2, 1) := by decide +kernel
theorem dX10_init_30 : decode cX10_init 30 = .ok (.bipush 6, 2) := by decide +kernel
theorem dX10_init_32 : decode cX10_init 32 = .ok (.if_icmp .ge 71, 3) := by decide +kernel
theorem dX10_init_35 : decode cX10_init 35 = .ok (.iload_n 1, 1) := by decide +kernel
theorem dX10_init_36 : decode cX10_init 36 = .ok (.bipush 7, 2) := by decide +kernel
theorem dX10_init_38 : decode cX10_init 38 = .ok (.imul, 1) := by decide +kernel
theorem dX10_init_39 : decode cX10_init 39 = .ok (.iload_n 2, 1) := by decide +kernel
theorem dX10_init_40 : decode cX10_init 40 = .ok (.iadd, 1) := by decide +kernel
theorem dX10_init_41 : decode cX10_init 41 = .ok (.istore_n 3, 1) := by decide +kernel
theorem dX10_init_42 : decode cX10_init 42 = .ok (.iload_n 3, 1) := by decide +kernel
theorem dX10_init_43 : decode cX10_init 43 = .ok (.ldc 19, 2) := by decide +kernel
theorem dX10_init_45 : decode cX10_init 45 = .ok (.invokevirtual 21, 3) := by decide +kernel
theorem dX10_init_48 : decode cX10_init 48 = .ok (.if_icmp .ge 12, 3) := by decide +kernel
theorem dX10_init_51 : decode cX10_init 51 = .ok (.ldc 19, 2) := by decide +kernel
theorem dX10_init_53 : decode cX10_init 53 = .ok (.iload_n 3, 1) := by decide +kernel
theorem dX10_init_54 : decode cX10_init 54 = .ok (.invokevirtual 27, 3) := by decide +kernel
