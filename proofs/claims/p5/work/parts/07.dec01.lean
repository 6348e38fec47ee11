theorem dX12_readsGroup_134 : decode cX12_readsGroup 134 = .ok (.iinc 6 1, 3) := by decide +kernel
theorem dX12_readsGroup_137 : decode cX12_readsGroup 137 = .ok (.goto (-61), 3) := by decide +kernel
theorem dX12_readsGroup_140 : decode cX12_readsGroup 140 = .ok (.return_, 1) := by decide +kernel
theorem dX12_readsAnswer_0 : decode cX12_readsAnswer 0 = .ok (.aload_n 0, 1) := by decide +kernel
theorem dX12_readsAnswer_1 : decode cX12_readsAnswer 1 = .ok (.invokevirtual 310, 3) := by decide +kernel
theorem dX12_readsAnswer_4 : decode cX12_readsAnswer 4 = .ok (.istore_n 1, 1) := by decide +kernel
theorem dX12_readsAnswer_5 : decode cX12_readsAnswer 5 = .ok (.aload_n 0, 1) := by decide +kernel
theorem dX12_readsAnswer_6 : decode cX12_readsAnswer 6 = .ok (.bipush 12, 2) := by decide +kernel
theorem dX12_readsAnswer_8 : decode cX12_readsAnswer 8 = .ok (.invokevirtual 285, 3) := by decide +kernel
theorem dX12_readsAnswer_11 : decode cX12_readsAnswer 11 = .ok (.aload_n 0, 1) := by decide +kernel
theorem dX12_readsAnswer_12 : decode cX12_readsAnswer 12 = .ok (.lconst 0, 1) := by decide +kernel
theorem dX12_readsAnswer_13 : decode cX12_readsAnswer 13 = .ok (.ldc2_w 288, 3) := by decide +kernel
theorem dX12_readsAnswer_16 : decode cX12_readsAnswer 16 = .ok (.invokevirtual 290, 3) := by decide +kernel
theorem dX12_readsAnswer_19 : decode cX12_readsAnswer 19 = .ok (.lstore_n 2, 1) := by decide +kernel
theorem dX12_readsAnswer_20 : decode cX12_readsAnswer 20 = .ok (.aload_n 0, 1) := by decide +kernel
theorem dX12_readsAnswer_21 : decode cX12_readsAnswer 21 = .ok (.invokevirtual 231, 3) := by decide +kernel
theorem dX12_readsAnswer_24 : decode cX12_readsAnswer 24 = .ok (.ifCond .eq 15, 3) := by decide +kernel
theorem dX12_readsAnswer_27 : decode cX12_readsAnswer 27 = .ok (.aload_n 0, 1) := by decide +kernel
theorem dX12_readsAnswer_28 : decode cX12_readsAnswer 28 = .ok (.getfield 90, 3) := by decide +kernel
theorem dX12_readsAnswer_31 : decode cX12_readsAnswer 31 = .ok (.aload_n 0, 1) := by decide +kernel
theorem dX12_readsAnswer_32 : decode cX12_readsAnswer 32 = .ok (.iload_n 1, 1) := by decide +kernel
theorem dX12_readsAnswer_33 : decode cX12_readsAnswer 33 = .ok (.invokevirtual 270, 3) := by decide +kernel
theorem dX12_readsAnswer_36 : decode cX12_readsAnswer 36 = .ok (.lload_n 2, 1) := by decide +kernel
theorem dX12_readsAnswer_37 : decode cX12_readsAnswer 37 = .ok (.l2i, 1) := by decide +kernel
theorem dX12_readsAnswer_38 : decode cX12_readsAnswer 38 = .ok (.iastore, 1) := by decide +kernel
theorem dX12_readsAnswer_39 : decode cX12_readsAnswer 39 = .ok (.return_, 1) := by decide +kernel
theorem dX12_isBeginning_0 : decode cX12_isBeginning 0 = .ok (.iload_n 0, 1) := by decide +kernel
theorem dX12_isBeginning_1 : decode cX12_isBeginning 1 = .ok (.ifCond .eq 37, 3) := by decide +kernel
theorem dX12_isBeginning_4 : decode cX12_isBeginning 4 = .ok (.iload_n 0, 1) := by decide +kernel
theorem dX12_isBeginning_5 : decode cX12_isBeginning 5 = .ok (.iconst 4, 1) := by decide +kernel
theorem dX12_isBeginning_6 : decode cX12_isBeginning 6 = .ok (.if_icmp .eq 32, 3) := by decide +kernel
theorem dX12_isBeginning_9 : decode cX12_isBeginning 9 = .ok (.iload_n 0, 1) := by decide +kernel
theorem dX12_isBeginning_10 : decode cX12_isBeginning 10 = .ok (.iconst 5, 1) := by decide +kernel
theorem dX12_isBeginning_11 : decode cX12_isBeginning 11 = .ok (.if_icmp .eq 27, 3) := by decide +kernel
theorem dX12_isBeginning_14 : decode cX12_isBeginning 14 = .ok (.iload_n 0, 1) := by decide +kernel
theorem dX12_isBeginning_15 : decode cX12_isBeginning 15 = .ok (.bipush 6, 2) := by decide +kernel
theorem dX12_isBeginning_17 : decode cX12_isBeginning 17 = .ok (.if_icmp .eq 21, 3) := by decide +kernel
theorem dX12_isBeginning_20 : decode cX12_isBeginning 20 = .ok (.iload_n 0, 1) := by decide +kernel
theorem dX12_isBeginning_21 : decode cX12_isBeginning 21 = .ok (.bipush 9, 2) := by decide +kernel
theorem dX12_isBeginning_23 : decode cX12_isBeginning 23 = .ok (.if_icmp .eq 15, 3) := by decide +kernel
theorem dX12_isBeginning_26 : decode cX12_isBeginning 26 = .ok (.iload_n 0, 1) := by decide +kernel
theorem dX12_isBeginning_27 : decode cX12_isBeginning 27 = .ok (.bipush 10, 2) := by decide +kernel
theorem dX12_isBeginning_29 : decode cX12_isBeginning 29 = .ok (.if_icmp .eq 9, 3) := by decide +kernel
theorem dX12_isBeginning_32 : decode cX12_isBeginning 32 = .ok (.iload_n 0, 1) := by decide +kernel
theorem dX12_isBeginning_33 : decode cX12_isBeginning 33 = .ok (.bipush 11, 2) := by decide +kernel
theorem dX12_isBeginning_35 : decode cX12_isBeginning 35 = .ok (.if_icmp .ne 7, 3) := by decide +kernel
theorem dX12_isBeginning_38 : decode cX12_isBeginning 38 = .ok (.iconst 1, 1) := by decide +kernel
theorem dX12_isBeginning_39 : decode cX12_isBeginning 39 = .ok (.goto 4, 3) := by decide +kernel
theorem dX12_isBeginning_42 : decode cX12_isBeginning 42 = .ok (.iconst 0, 1) := by decide +kernel
theorem dX12_isBeginning_43 : decode cX12_isBeginning 43 = .ok (.ireturn, 1) := by decide +kernel
theorem dX12_readsStatement_0 : decode cX12_readsStatement 0 = .ok (.aload_n 0, 1) := by decide +kernel
theorem dX12_readsStatement_1 : decode cX12_readsStatement 1 = .ok (.invokevirtual 249, 3) := by decide +kernel
theorem dX12_readsStatement_4 : decode cX12_readsStatement 4 = .ok (.aload_n 0, 1) := by decide +kernel
theorem dX12_readsStatement_5 : decode cX12_readsStatement 5 = .ok (.invokevirtual 231, 3) := by decide +kernel
theorem dX12_readsStatement_8 : decode cX12_readsStatement 8 = .ok (.ifCond .eq 10, 3) := by decide +kernel
theorem dX12_readsStatement_11 : decode cX12_readsStatement 11 = .ok (.aload_n 0, 1) := by decide +kernel
theorem dX12_readsStatement_12 : decode cX12_readsStatement 12 = .ok (.invokevirtual 252, 3) := by decide +kernel
theorem dX12_readsStatement_15 : decode cX12_readsStatement 15 = .ok (.goto 4, 3) := by decide +kernel
theorem dX12_readsStatement_18 : decode cX12_readsStatement 18 = .ok (.iconst (-1), 1) := by decide +kernel
theorem dX12_readsStatement_19 : decode cX12_readsStatement 19 = .ok (.istore_n 2, 1) := by decide +kernel
theorem dX12_readsStatement_20 : decode cX12_readsStatement 20 = .ok (.aload_n 0, 1) := by decide +kernel
theorem dX12_readsStatement_21 : decode cX12_readsStatement 21 = .ok (.invokevirtual 231, 3) := by decide +kernel
theorem dX12_readsStatement_24 : decode cX12_readsStatement 24 = .ok (.ifCond .eq 19, 3) := by decide +kernel
theorem dX12_readsStatement_27 : decode cX12_readsStatement 27 = .ok (.iload_n 2, 1) := by decide +kernel
theorem dX12_readsStatement_28 : decode cX12_readsStatement 28 = .ok (.invokestatic 325, 3) := by decide +kernel
theorem dX12_readsStatement_31 : decode cX12_readsStatement 31 = .ok (.ifCond .ne 12, 3) := by decide +kernel
theorem dX12_readsStatement_34 : decode cX12_readsStatement 34 = .ok (.aload_n 0, 1) := by decide +kernel
theorem dX12_readsStatement_35 : decode cX12_readsStatement 35 = .ok (.iconst 1, 1) := by decide +kernel
theorem dX12_readsStatement_36 : decode cX12_readsStatement 36 = .ok (.aload_n 0, 1) := by decide +kernel
theorem dX12_readsStatement_37 : decode cX12_readsStatement 37 = .ok (.getfield 32, 3) := by decide +kernel
theorem dX12_readsStatement_40 : decode cX12_readsStatement 40 = .ok (.invokevirtual 239, 3) := by decide +kernel
theorem dX12_readsStatement_43 : decode cX12_readsStatement 43 = .ok (.iload_n 1, 1) := by decide +kernel
theorem dX12_readsStatement_44 : decode cX12_readsStatement 44 = .ok (.bipush 40, 2) := by decide +kernel
theorem dX12_readsStatement_46 : decode cX12_readsStatement 46 = .ok (.if_icmp .eq 45, 3) := by decide +kernel
theorem dX12_readsStatement_49 : decode cX12_readsStatement 49 = .ok (.iload_n 2, 1) := by decide +kernel
theorem dX12_readsStatement_50 : decode cX12_readsStatement 50 = .ok (.ifCond .ne 16, 3) := by decide +kernel
theorem dX12_readsStatement_53 : decode cX12_readsStatement 53 = .ok (.aload_n 0, 1) := by decide +kernel
theorem dX12_readsStatement_54 : decode cX12_readsStatement 54 = .ok (.getfield 47, 3) := by decide +kernel
theorem dX12_readsStatement_57 : decode cX12_readsStatement 57 = .ok (.aload_n 0, 1) := by decide +kernel
theorem dX12_readsStatement_58 : decode cX12_readsStatement 58 = .ok (.getfield 44, 3) := by decide +kernel
theorem dX12_readsStatement_61 : decode cX12_readsStatement 61 = .ok (.iaload, 1) := by decide +kernel
theorem dX12_readsStatement_62 : decode cX12_readsStatement 62 = .ok (.iconst 4, 1) := by decide +kernel
theorem dX12_readsStatement_63 : decode cX12_readsStatement 63 = .ok (.if_icmp .eq 28, 3) := by decide +kernel
theorem dX12_readsStatement_66 : decode cX12_readsStatement 66 = .ok (.iload_n 2, 1) := by decide +kernel
theorem dX12_readsStatement_67 : decode cX12_readsStatement 67 = .ok (.iconst 5, 1) := by decide +kernel
theorem dX12_readsStatement_68 : decode cX12_readsStatement 68 = .ok (.if_icmp .eq 9, 3) := by decide +kernel
theorem dX12_readsStatement_71 : decode cX12_readsStatement 71 = .ok (.iload_n 2, 1) := by decide +kernel
theorem dX12_readsStatement_72 : decode cX12_readsStatement 72 = .ok (.bipush 6, 2) := by decide +kernel
theorem dX12_readsStatement_74 : decode cX12_readsStatement 74 = .ok (.if_icmp .ne 21, 3) := by decide +kernel
theorem dX12_readsStatement_77 : decode cX12_readsStatement 77 = .ok (.aload_n 0, 1) := by decide +kernel
theorem dX12_readsStatement_78 : decode cX12_readsStatement 78 = .ok (.getfield 62, 3) := by decide +kernel
theorem dX12_readsStatement_81 : decode cX12_readsStatement 81 = .ok (.aload_n 0, 1) := by decide +kernel
theorem dX12_readsStatement_82 : decode cX12_readsStatement 82 = .ok (.getfield 44, 3) := by decide +kernel
theorem dX12_readsStatement_85 : decode cX12_readsStatement 85 = .ok (.iaload, 1) := by decide +kernel
theorem dX12_readsStatement_86 : decode cX12_readsStatement 86 = .ok (.bipush 14, 2) := by decide +kernel
theorem dX12_readsStatement_88 : decode cX12_readsStatement 88 = .ok (.if_icmp .ne 7, 3) := by decide +kernel
theorem dX12_readsStatement_91 : decode cX12_readsStatement 91 = .ok (.iconst 1, 1) := by decide +kernel
theorem dX12_readsStatement_92 : decode cX12_readsStatement 92 = .ok (.goto 4, 3) := by decide +kernel
theorem dX12_readsStatement_95 : decode cX12_readsStatement 95 = .ok (.iconst 0, 1) := by decide +kernel
theorem dX12_readsStatement_96 : decode cX12_readsStatement 96 = .ok (.istore_n 3, 1) := by decide +kernel
theorem dX12_readsStatement_97 : decode cX12_readsStatement 97 = .ok (.aload_n 0, 1) := by decide +kernel
theorem dX12_readsStatement_98 : decode cX12_readsStatement 98 = .ok (.invokevirtual 231, 3) := by decide +kernel
theorem dX12_readsStatement_101 : decode cX12_readsStatement 101 = .ok (.ifCond .eq 16, 3) := by decide +kernel
theorem dX12_readsStatement_104 : decode cX12_readsStatement 104 = .ok (.iload_n 3, 1) := by decide +kernel
theorem dX12_readsStatement_105 : decode cX12_readsStatement 105 = .ok (.ifCond .eq 12, 3) := by decide +kernel
theorem dX12_readsStatement_108 : decode cX12_readsStatement 108 = .ok (.aload_n 0, 1) := by decide +kernel
theorem dX12_readsStatement_109 : decode cX12_readsStatement 109 = .ok (.iconst 4, 1) := by decide +kernel
theorem dX12_readsStatement_110 : decode cX12_readsStatement 110 = .ok (.aload_n 0, 1) := by decide +kernel
theorem dX12_readsStatement_111 : decode cX12_readsStatement 111 = .ok (.getfield 32, 3) := by decide +kernel
theorem dX12_readsStatement_114 : decode cX12_readsStatement 114 = .ok (.invokevirtual 239, 3) := by decide +kernel
theorem dX12_readsStatement_117 : decode cX12_readsStatement 117 = .ok (.aload_n 0, 1) := by decide +kernel
theorem dX12_readsStatement_118 : decode cX12_readsStatement 118 = .ok (.invokevirtual 231, 3) := by decide +kernel
theorem dX12_readsStatement_121 : decode cX12_readsStatement 121 = .ok (.ifCond .ne 4, 3) := by decide +kernel
theorem dX12_readsStatement_124 : decode cX12_readsStatement 124 = .ok (.return_, 1) := by decide +kernel
theorem dX12_readsStatement_125 : decode cX12_readsStatement 125 = .ok (.iload_n 2, 1) := by decide +kernel
theorem dX12_readsStatement_126 : decode cX12_readsStatement 126 = .ok (.tableswitch 137 0 10 #[58, 137, 137, 137, 65, 109, 116, 137, 137, 123, 130], 58) := by decide +kernel
theorem dX12_readsStatement_184 : decode cX12_readsStatement 184 = .ok (.aload_n 0, 1) := by decide +kernel
theorem dX12_readsStatement_185 : decode cX12_readsStatement 185 = .ok (.invokevirtual 328, 3) := by decide +kernel
theorem dX12_readsStatement_188 : decode cX12_readsStatement 188 = .ok (.goto 79, 3) := by decide +kernel
theorem dX12_readsStatement_191 : decode cX12_readsStatement 191 = .ok (.aload_n 0, 1) := by decide +kernel
theorem dX12_readsStatement_192 : decode cX12_readsStatement 192 = .ok (.lconst 0, 1) := by decide +kernel
theorem dX12_readsStatement_193 : decode cX12_readsStatement 193 = .ok (.ldc2_w 296, 3) := by decide +kernel
theorem dX12_readsStatement_196 : decode cX12_readsStatement 196 = .ok (.invokevirtual 290, 3) := by decide +kernel
theorem dX12_readsStatement_199 : decode cX12_readsStatement 199 = .ok (.lstore 4, 2) := by decide +kernel
theorem dX12_readsStatement_201 : decode cX12_readsStatement 201 = .ok (.aload_n 0, 1) := by decide +kernel
theorem dX12_readsStatement_202 : decode cX12_readsStatement 202 = .ok (.getfield 84, 3) := by decide +kernel
theorem dX12_readsStatement_205 : decode cX12_readsStatement 205 = .ok (.aload_n 0, 1) := by decide +kernel
theorem dX12_readsStatement_206 : decode cX12_readsStatement 206 = .ok (.getfield 44, 3) := by decide +kernel
theorem dX12_readsStatement_209 : decode cX12_readsStatement 209 = .ok (.aload_n 0, 1) := by decide +kernel
theorem dX12_readsStatement_210 : decode cX12_readsStatement 210 = .ok (.invokevirtual 231, 3) := by decide +kernel
theorem dX12_readsStatement_213 : decode cX12_readsStatement 213 = .ok (.ifCond .eq 9, 3) := by decide +kernel
theorem dX12_readsStatement_216 : decode cX12_readsStatement 216 = .ok (.lload 4, 2) := by decide +kernel
theorem dX12_readsStatement_218 : decode cX12_readsStatement 218 = .ok (.l2i, 1) := by decide +kernel
theorem dX12_readsStatement_219 : decode cX12_readsStatement 219 = .ok (.goto 12, 3) := by decide +kernel
theorem dX12_readsStatement_222 : decode cX12_readsStatement 222 = .ok (.aload_n 0, 1) := by decide +kernel
theorem dX12_readsStatement_223 : decode cX12_readsStatement 223 = .ok (.getfield 84, 3) := by decide +kernel
theorem dX12_readsStatement_226 : decode cX12_readsStatement 226 = .ok (.aload_n 0, 1) := by decide +kernel
theorem dX12_readsStatement_227 : decode cX12_readsStatement 227 = .ok (.getfield 44, 3) := by decide +kernel
theorem dX12_readsStatement_230 : decode cX12_readsStatement 230 = .ok (.iaload, 1) := by decide +kernel
theorem dX12_readsStatement_231 : decode cX12_readsStatement 231 = .ok (.iastore, 1) := by decide +kernel
theorem dX12_readsStatement_232 : decode cX12_readsStatement 232 = .ok (.goto 35, 3) := by decide +kernel
theorem dX12_readsStatement_235 : decode cX12_readsStatement 235 = .ok (.aload_n 0, 1) := by decide +kernel
theorem dX12_readsStatement_236 : decode cX12_readsStatement 236 = .ok (.invokevirtual 331, 3) := by decide +kernel
theorem dX12_readsStatement_239 : decode cX12_readsStatement 239 = .ok (.goto 28, 3) := by decide +kernel
theorem dX12_readsStatement_242 : decode cX12_readsStatement 242 = .ok (.aload_n 0, 1) := by decide +kernel
theorem dX12_readsStatement_243 : decode cX12_readsStatement 243 = .ok (.invokevirtual 334, 3) := by decide +kernel
theorem dX12_readsStatement_246 : decode cX12_readsStatement 246 = .ok (.goto 21, 3) := by decide +kernel
theorem dX12_readsStatement_249 : decode cX12_readsStatement 249 = .ok (.aload_n 0, 1) := by decide +kernel
theorem dX12_readsStatement_250 : decode cX12_readsStatement 250 = .ok (.invokevirtual 337, 3) := by decide +kernel
theorem dX12_readsStatement_253 : decode cX12_readsStatement 253 = .ok (.goto 14, 3) := by decide +kernel
theorem dX12_readsStatement_256 : decode cX12_readsStatement 256 = .ok (.aload_n 0, 1) := by decide +kernel
theorem dX12_readsStatement_257 : decode cX12_readsStatement 257 = .ok (.invokevirtual 340, 3) := by decide +kernel
theorem dX12_readsStatement_260 : decode cX12_readsStatement 260 = .ok (.goto 7, 3) := by decide +kernel
theorem dX12_readsStatement_263 : decode cX12_readsStatement 263 = .ok (.aload_n 0, 1) := by decide +kernel
theorem dX12_readsStatement_264 : decode cX12_readsStatement 264 = .ok (.invokevirtual 343, 3) := by decide +kernel
theorem dX12_readsStatement_267 : decode cX12_readsStatement 267 = .ok (.aload_n 0, 1) := by decide +kernel
theorem dX12_readsStatement_268 : decode cX12_readsStatement 268 = .ok (.bipush 59, 2) := by decide +kernel
theorem dX12_readsStatement_270 : decode cX12_readsStatement 270 = .ok (.invokevirtual 313, 3) := by decide +kernel
theorem dX12_readsStatement_273 : decode cX12_readsStatement 273 = .ok (.return_, 1) := by decide +kernel
theorem dX12_copiesTask_0 : decode cX12_copiesTask 0 = .ok (.aload_n 0, 1) := by decide +kernel
theorem dX12_copiesTask_1 : decode cX12_copiesTask 1 = .ok (.getfield 47, 3) := by decide +kernel
theorem dX12_copiesTask_4 : decode cX12_copiesTask 4 = .ok (.iconst 0, 1) := by decide +kernel
theorem dX12_copiesTask_5 : decode cX12_copiesTask 5 = .ok (.aload_n 0, 1) := by decide +kernel
theorem dX12_copiesTask_6 : decode cX12_copiesTask 6 = .ok (.getfield 47, 3) := by decide +kernel
theorem dX12_copiesTask_9 : decode cX12_copiesTask 9 = .ok (.iconst 1, 1) := by decide +kernel
theorem dX12_copiesTask_10 : decode cX12_copiesTask 10 = .ok (.iaload, 1) := by decide +kernel
theorem dX12_copiesTask_11 : decode cX12_copiesTask 11 = .ok (.iastore, 1) := by decide +kernel
theorem dX12_copiesTask_12 : decode cX12_copiesTask 12 = .ok (.aload_n 0, 1) := by decide +kernel
theorem dX12_copiesTask_13 : decode cX12_copiesTask 13 = .ok (.getfield 62, 3) := by decide +kernel
theorem dX12_copiesTask_16 : decode cX12_copiesTask 16 = .ok (.iconst 0, 1) := by decide +kernel
theorem dX12_copiesTask_17 : decode cX12_copiesTask 17 = .ok (.aload_n 0, 1) := by decide +kernel
theorem dX12_copiesTask_18 : decode cX12_copiesTask 18 = .ok (.getfield 62, 3) := by decide +kernel
theorem dX12_copiesTask_21 : decode cX12_copiesTask 21 = .ok (.iconst 1, 1) := by decide +kernel
theorem dX12_copiesTask_22 : decode cX12_copiesTask 22 = .ok (.iaload, 1) := by decide +kernel
theorem dX12_copiesTask_23 : decode cX12_copiesTask 23 = .ok (.iastore, 1) := by decide +kernel
theorem dX12_copiesTask_24 : decode cX12_copiesTask 24 = .ok (.aload_n 0, 1) := by decide +kernel
theorem dX12_copiesTask_25 : decode cX12_copiesTask 25 = .ok (.getfield 84, 3) := by decide +kernel
theorem dX12_copiesTask_28 : decode cX12_copiesTask 28 = .ok (.iconst 0, 1) := by decide +kernel
theorem dX12_copiesTask_29 : decode cX12_copiesTask 29 = .ok (.aload_n 0, 1) := by decide +kernel
theorem dX12_copiesTask_30 : decode cX12_copiesTask 30 = .ok (.getfield 84, 3) := by decide +kernel
theorem dX12_copiesTask_33 : decode cX12_copiesTask 33 = .ok (.iconst 1, 1) := by decide +kernel
theorem dX12_copiesTask_34 : decode cX12_copiesTask 34 = .ok (.iaload, 1) := by decide +kernel
theorem dX12_copiesTask_35 : decode cX12_copiesTask 35 = .ok (.iastore, 1) := by decide +kernel
theorem dX12_copiesTask_36 : decode cX12_copiesTask 36 = .ok (.iconst 0, 1) := by decide +kernel
theorem dX12_copiesTask_37 : decode cX12_copiesTask 37 = .ok (.istore_n 1, 1) := by decide +kernel
theorem dX12_copiesTask_38 : decode cX12_copiesTask 38 = .ok (.iload_n 1, 1) := by decide +kernel
theorem dX12_copiesTask_39 : decode cX12_copiesTask 39 = .ok (.iconst 4, 1) := by decide +kernel
theorem dX12_copiesTask_40 : decode cX12_copiesTask 40 = .ok (.if_icmp .ge 65, 3) := by decide +kernel
theorem dX12_copiesTask_43 : decode cX12_copiesTask 43 = .ok (.aload_n 0, 1) := by decide +kernel
theorem dX12_copiesTask_44 : decode cX12_copiesTask 44 = .ok (.getfield 50, 3) := by decide +kernel
theorem dX12_copiesTask_47 : decode cX12_copiesTask 47 = .ok (.iload_n 1, 1) := by decide +kernel
theorem dX12_copiesTask_48 : decode cX12_copiesTask 48 = .ok (.aload_n 0, 1) := by decide +kernel
theorem dX12_copiesTask_49 : decode cX12_copiesTask 49 = .ok (.getfield 50, 3) := by decide +kernel
theorem dX12_copiesTask_52 : decode cX12_copiesTask 52 = .ok (.iconst 4, 1) := by decide +kernel
theorem dX12_copiesTask_53 : decode cX12_copiesTask 53 = .ok (.iload_n 1, 1) := by decide +kernel
theorem dX12_copiesTask_54 : decode cX12_copiesTask 54 = .ok (.iadd, 1) := by decide +kernel
theorem dX12_copiesTask_55 : decode cX12_copiesTask 55 = .ok (.iaload, 1) := by decide +kernel
theorem dX12_copiesTask_56 : decode cX12_copiesTask 56 = .ok (.iastore, 1) := by decide +kernel
theorem dX12_copiesTask_57 : decode cX12_copiesTask 57 = .ok (.aload_n 0, 1) := by decide +kernel
theorem dX12_copiesTask_58 : decode cX12_copiesTask 58 = .ok (.getfield 53, 3) := by decide +kernel
theorem dX12_copiesTask_61 : decode cX12_copiesTask 61 = .ok (.iload_n 1, 1) := by decide +kernel
theorem dX12_copiesTask_62 : decode cX12_copiesTask 62 = .ok (.aload_n 0, 1) := by decide +kernel
theorem dX12_copiesTask_63 : decode cX12_copiesTask 63 = .ok (.getfield 53, 3) := by decide +kernel
theorem dX12_copiesTask_66 : decode cX12_copiesTask 66 = .ok (.iconst 4, 1) := by decide +kernel
theorem dX12_copiesTask_67 : decode cX12_copiesTask 67 = .ok (.iload_n 1, 1) := by decide +kernel
theorem dX12_copiesTask_68 : decode cX12_copiesTask 68 = .ok (.iadd, 1) := by decide +kernel
theorem dX12_copiesTask_69 : decode cX12_copiesTask 69 = .ok (.iaload, 1) := by decide +kernel
theorem dX12_copiesTask_70 : decode cX12_copiesTask 70 = .ok (.iastore, 1) := by decide +kernel
theorem dX12_copiesTask_71 : decode cX12_copiesTask 71 = .ok (.aload_n 0, 1) := by decide +kernel
theorem dX12_copiesTask_72 : decode cX12_copiesTask 72 = .ok (.getfield 56, 3) := by decide +kernel
theorem dX12_copiesTask_75 : decode cX12_copiesTask 75 = .ok (.iload_n 1, 1) := by decide +kernel
theorem dX12_copiesTask_76 : decode cX12_copiesTask 76 = .ok (.aload_n 0, 1) := by decide +kernel
theorem dX12_copiesTask_77 : decode cX12_copiesTask 77 = .ok (.getfield 56, 3) := by decide +kernel
theorem dX12_copiesTask_80 : decode cX12_copiesTask 80 = .ok (.iconst 4, 1) := by decide +kernel
theorem dX12_copiesTask_81 : decode cX12_copiesTask 81 = .ok (.iload_n 1, 1) := by decide +kernel
theorem dX12_copiesTask_82 : decode cX12_copiesTask 82 = .ok (.iadd, 1) := by decide +kernel
theorem dX12_copiesTask_83 : decode cX12_copiesTask 83 = .ok (.iaload, 1) := by decide +kernel
theorem dX12_copiesTask_84 : decode cX12_copiesTask 84 = .ok (.iastore, 1) := by decide +kernel
theorem dX12_copiesTask_85 : decode cX12_copiesTask 85 = .ok (.aload_n 0, 1) := by decide +kernel
theorem dX12_copiesTask_86 : decode cX12_copiesTask 86 = .ok (.getfield 59, 3) := by decide +kernel
theorem dX12_copiesTask_89 : decode cX12_copiesTask 89 = .ok (.iload_n 1, 1) := by decide +kernel
theorem dX12_copiesTask_90 : decode cX12_copiesTask 90 = .ok (.aload_n 0, 1) := by decide +kernel
theorem dX12_copiesTask_91 : decode cX12_copiesTask 91 = .ok (.getfield 59, 3) := by decide +kernel
theorem dX12_copiesTask_94 : decode cX12_copiesTask 94 = .ok (.iconst 4, 1) := by decide +kernel
theorem dX12_copiesTask_95 : decode cX12_copiesTask 95 = .ok (.iload_n 1, 1) := by decide +kernel
theorem dX12_copiesTask_96 : decode cX12_copiesTask 96 = .ok (.iadd, 1) := by decide +kernel
theorem dX12_copiesTask_97 : decode cX12_copiesTask 97 = .ok (.iaload, 1) := by decide +kernel
theorem dX12_copiesTask_98 : decode cX12_copiesTask 98 = .ok (.iastore, 1) := by decide +kernel
theorem dX12_copiesTask_99 : decode cX12_copiesTask 99 = .ok (.iinc 1 1, 3) := by decide +kernel
theorem dX12_copiesTask_102 : decode cX12_copiesTask 102 = .ok (.goto (-64), 3) := by decide +kernel
theorem dX12_copiesTask_105 : decode cX12_copiesTask 105 = .ok (.iconst 0, 1) := by decide +kernel
theorem dX12_copiesTask_106 : decode cX12_copiesTask 106 = .ok (.istore_n 1, 1) := by decide +kernel
theorem dX12_copiesTask_107 : decode cX12_copiesTask 107 = .ok (.iload_n 1, 1) := by decide +kernel
theorem dX12_copiesTask_108 : decode cX12_copiesTask 108 = .ok (.bipush 14, 2) := by decide +kernel
theorem dX12_copiesTask_110 : decode cX12_copiesTask 110 = .ok (.if_icmp .ge 122, 3) := by decide +kernel
theorem dX12_copiesTask_113 : decode cX12_copiesTask 113 = .ok (.bipush 14, 2) := by decide +kernel
theorem dX12_copiesTask_115 : decode cX12_copiesTask 115 = .ok (.iload_n 1, 1) := by decide +kernel
theorem dX12_copiesTask_116 : decode cX12_copiesTask 116 = .ok (.iadd, 1) := by decide +kernel
theorem dX12_copiesTask_117 : decode cX12_copiesTask 117 = .ok (.istore_n 2, 1) := by decide +kernel
theorem dX12_copiesTask_118 : decode cX12_copiesTask 118 = .ok (.aload_n 0, 1) := by decide +kernel
theorem dX12_copiesTask_119 : decode cX12_copiesTask 119 = .ok (.getfield 65, 3) := by decide +kernel
theorem dX12_copiesTask_122 : decode cX12_copiesTask 122 = .ok (.iload_n 1, 1) := by decide +kernel
theorem dX12_copiesTask_123 : decode cX12_copiesTask 123 = .ok (.aload_n 0, 1) := by decide +kernel
theorem dX12_copiesTask_124 : decode cX12_copiesTask 124 = .ok (.getfield 65, 3) := by decide +kernel
theorem dX12_copiesTask_127 : decode cX12_copiesTask 127 = .ok (.iload_n 2, 1) := by decide +kernel
theorem dX12_copiesTask_128 : decode cX12_copiesTask 128 = .ok (.iaload, 1) := by decide +kernel
theorem dX12_copiesTask_129 : decode cX12_copiesTask 129 = .ok (.iastore, 1) := by decide +kernel
theorem dX12_copiesTask_130 : decode cX12_copiesTask 130 = .ok (.aload_n 0, 1) := by decide +kernel
theorem dX12_copiesTask_131 : decode cX12_copiesTask 131 = .ok (.getfield 68, 3) := by decide +kernel
theorem dX12_copiesTask_134 : decode cX12_copiesTask 134 = .ok (.iload_n 1, 1) := by decide +kernel
theorem dX12_copiesTask_135 : decode cX12_copiesTask 135 = .ok (.aload_n 0, 1) := by decide +kernel
theorem dX12_copiesTask_136 : decode cX12_copiesTask 136 = .ok (.getfield 68, 3) := by decide +kernel
theorem dX12_copiesTask_139 : decode cX12_copiesTask 139 = .ok (.iload_n 2, 1) := by decide +kernel
theorem dX12_copiesTask_140 : decode cX12_copiesTask 140 = .ok (.iaload, 1) := by decide +kernel
theorem dX12_copiesTask_141 : decode cX12_copiesTask 141 = .ok (.iastore, 1) := by decide +kernel
theorem dX12_copiesTask_142 : decode cX12_copiesTask 142 = .ok (.aload_n 0, 1) := by decide +kernel
theorem dX12_copiesTask_143 : decode cX12_copiesTask 143 = .ok (.getfield 71, 3) := by decide +kernel
theorem dX12_copiesTask_146 : decode cX12_copiesTask 146 = .ok (.iload_n 1, 1) := by decide +kernel
theorem dX12_copiesTask_147 : decode cX12_copiesTask 147 = .ok (.aload_n 0, 1) := by decide +kernel
theorem dX12_copiesTask_148 : decode cX12_copiesTask 148 = .ok (.getfield 71, 3) := by decide +kernel
theorem dX12_copiesTask_151 : decode cX12_copiesTask 151 = .ok (.iload_n 2, 1) := by decide +kernel
theorem dX12_copiesTask_152 : decode cX12_copiesTask 152 = .ok (.iaload, 1) := by decide +kernel
theorem dX12_copiesTask_153 : decode cX12_copiesTask 153 = .ok (.iastore, 1) := by decide +kernel
theorem dX12_copiesTask_154 : decode cX12_copiesTask 154 = .ok (.aload_n 0, 1) := by decide +kernel
theorem dX12_copiesTask_155 : decode cX12_copiesTask 155 = .ok (.getfield 74, 3) := by decide +kernel
theorem dX12_copiesTask_158 : decode cX12_copiesTask 158 = .ok (.iload_n 1, 1) := by decide +kernel
theorem dX12_copiesTask_159 : decode cX12_copiesTask 159 = .ok (.aload_n 0, 1) := by decide +kernel
theorem dX12_copiesTask_160 : decode cX12_copiesTask 160 = .ok (.getfield 74, 3) := by decide +kernel
theorem dX12_copiesTask_163 : decode cX12_copiesTask 163 = .ok (.iload_n 2, 1) := by decide +kernel
theorem dX12_copiesTask_164 : decode cX12_copiesTask 164 = .ok (.iaload, 1) := by decide +kernel
theorem dX12_copiesTask_165 : decode cX12_copiesTask 165 = .ok (.iastore, 1) := by decide +kernel
theorem dX12_copiesTask_166 : decode cX12_copiesTask 166 = .ok (.aload_n 0, 1) := by decide +kernel
theorem dX12_copiesTask_167 : decode cX12_copiesTask 167 = .ok (.getfield 77, 3) := by decide +kernel
theorem dX12_copiesTask_170 : decode cX12_copiesTask 170 = .ok (.iload_n 1, 1) := by decide +kernel
theorem dX12_copiesTask_171 : decode cX12_copiesTask 171 = .ok (.aload_n 0, 1) := by decide +kernel
theorem dX12_copiesTask_172 : decode cX12_copiesTask 172 = .ok (.getfield 77, 3) := by decide +kernel
theorem dX12_copiesTask_175 : decode cX12_copiesTask 175 = .ok (.iload_n 2, 1) := by decide +kernel
theorem dX12_copiesTask_176 : decode cX12_copiesTask 176 = .ok (.laload, 1) := by decide +kernel
theorem dX12_copiesTask_177 : decode cX12_copiesTask 177 = .ok (.lastore, 1) := by decide +kernel
theorem dX12_copiesTask_178 : decode cX12_copiesTask 178 = .ok (.aload_n 0, 1) := by decide +kernel
theorem dX12_copiesTask_179 : decode cX12_copiesTask 179 = .ok (.getfield 81, 3) := by decide +kernel
theorem dX12_copiesTask_182 : decode cX12_copiesTask 182 = .ok (.iload_n 1, 1) := by decide +kernel
theorem dX12_copiesTask_183 : decode cX12_copiesTask 183 = .ok (.aload_n 0, 1) := by decide +kernel
theorem dX12_copiesTask_184 : decode cX12_copiesTask 184 = .ok (.getfield 81, 3) := by decide +kernel
theorem dX12_copiesTask_187 : decode cX12_copiesTask 187 = .ok (.iload_n 2, 1) := by decide +kernel
theorem dX12_copiesTask_188 : decode cX12_copiesTask 188 = .ok (.laload, 1) := by decide +kernel
theorem dX12_copiesTask_189 : decode cX12_copiesTask 189 = .ok (.lastore, 1) := by decide +kernel
theorem dX12_copiesTask_190 : decode cX12_copiesTask 190 = .ok (.aload_n 0, 1) := by decide +kernel
theorem dX12_copiesTask_191 : decode cX12_copiesTask 191 = .ok (.getfield 87, 3) := by decide +kernel
theorem dX12_copiesTask_194 : decode cX12_copiesTask 194 = .ok (.iload_n 1, 1) := by decide +kernel
theorem dX12_copiesTask_195 : decode cX12_copiesTask 195 = .ok (.aload_n 0, 1) := by decide +kernel
theorem dX12_copiesTask_196 : decode cX12_copiesTask 196 = .ok (.getfield 87, 3) := by decide +kernel
theorem dX12_copiesTask_199 : decode cX12_copiesTask 199 = .ok (.iload_n 2, 1) := by decide +kernel
theorem dX12_copiesTask_200 : decode cX12_copiesTask 200 = .ok (.iaload, 1) := by decide +kernel
theorem dX12_copiesTask_201 : decode cX12_copiesTask 201 = .ok (.iastore, 1) := by decide +kernel
theorem dX12_copiesTask_202 : decode cX12_copiesTask 202 = .ok (.aload_n 0, 1) := by decide +kernel
theorem dX12_copiesTask_203 : decode cX12_copiesTask 203 = .ok (.getfield 90, 3) := by decide +kernel
theorem dX12_copiesTask_206 : decode cX12_copiesTask 206 = .ok (.iload_n 1, 1) := by decide +kernel
theorem dX12_copiesTask_207 : decode cX12_copiesTask 207 = .ok (.aload_n 0, 1) := by decide +kernel
theorem dX12_copiesTask_208 : decode cX12_copiesTask 208 = .ok (.getfield 90, 3) := by decide +kernel
theorem dX12_copiesTask_211 : decode cX12_copiesTask 211 = .ok (.iload_n 2, 1) := by decide +kernel
theorem dX12_copiesTask_212 : decode cX12_copiesTask 212 = .ok (.iaload, 1) := by decide +kernel
theorem dX12_copiesTask_213 : decode cX12_copiesTask 213 = .ok (.iastore, 1) := by decide +kernel
theorem dX12_copiesTask_214 : decode cX12_copiesTask 214 = .ok (.aload_n 0, 1) := by decide +kernel
theorem dX12_copiesTask_215 : decode cX12_copiesTask 215 = .ok (.getfield 93, 3) := by decide +kernel
theorem dX12_copiesTask_218 : decode cX12_copiesTask 218 = .ok (.iload_n 1, 1) := by decide +kernel
theorem dX12_copiesTask_219 : decode cX12_copiesTask 219 = .ok (.aload_n 0, 1) := by decide +kernel
theorem dX12_copiesTask_220 : decode cX12_copiesTask 220 = .ok (.getfield 93, 3) := by decide +kernel
theorem dX12_copiesTask_223 : decode cX12_copiesTask 223 = .ok (.iload_n 2, 1) := by decide +kernel
theorem dX12_copiesTask_224 : decode cX12_copiesTask 224 = .ok (.iaload, 1) := by decide +kernel
theorem dX12_copiesTask_225 : decode cX12_copiesTask 225 = .ok (.iastore, 1) := by decide +kernel
theorem dX12_copiesTask_226 : decode cX12_copiesTask 226 = .ok (.iinc 1 1, 3) := by decide +kernel
theorem dX12_copiesTask_229 : decode cX12_copiesTask 229 = .ok (.goto (-122), 3) := by decide +kernel
theorem dX12_copiesTask_232 : decode cX12_copiesTask 232 = .ok (.return_, 1) := by decide +kernel
theorem dX12_task_0 : decode cX12_task 0 = .ok (.aload_n 0, 1) := by decide +kernel
theorem dX12_task_1 : decode cX12_task 1 = .ok (.aload_n 0, 1) := by decide +kernel
theorem dX12_task_2 : decode cX12_task 2 = .ok (.getfield 13, 3) := by decide +kernel
theorem dX12_task_5 : decode cX12_task 5 = .ok (.putfield 26, 3) := by decide +kernel
theorem dX12_task_8 : decode cX12_task 8 = .ok (.aload_n 0, 1) := by decide +kernel
theorem dX12_task_9 : decode cX12_task 9 = .ok (.iconst 0, 1) := by decide +kernel
theorem dX12_task_10 : decode cX12_task 10 = .ok (.putfield 13, 3) := by decide +kernel
theorem dX12_task_13 : decode cX12_task 13 = .ok (.aload_n 0, 1) := by decide +kernel
theorem dX12_task_14 : decode cX12_task 14 = .ok (.iconst 0, 1) := by decide +kernel
theorem dX12_task_15 : decode cX12_task 15 = .ok (.putfield 29, 3) := by decide +kernel
theorem dX12_task_18 : decode cX12_task 18 = .ok (.aload_n 0, 1) := by decide +kernel
theorem dX12_task_19 : decode cX12_task 19 = .ok (.iconst 0, 1) := by decide +kernel
theorem dX12_task_20 : decode cX12_task 20 = .ok (.putfield 35, 3) := by decide +kernel
theorem dX12_task_23 : decode cX12_task 23 = .ok (.aload_n 0, 1) := by decide +kernel
theorem dX12_task_24 : decode cX12_task 24 = .ok (.iconst (-1), 1) := by decide +kernel
theorem dX12_task_25 : decode cX12_task 25 = .ok (.putfield 38, 3) := by decide +kernel
theorem dX12_task_28 : decode cX12_task 28 = .ok (.aload_n 0, 1) := by decide +kernel
theorem dX12_task_29 : decode cX12_task 29 = .ok (.iconst 1, 1) := by decide +kernel
theorem dX12_task_30 : decode cX12_task 30 = .ok (.putfield 44, 3) := by decide +kernel
theorem dX12_task_33 : decode cX12_task 33 = .ok (.aload_n 0, 1) := by decide +kernel
theorem dX12_task_34 : decode cX12_task 34 = .ok (.getfield 47, 3) := by decide +kernel
theorem dX12_task_37 : decode cX12_task 37 = .ok (.iconst 1, 1) := by decide +kernel
theorem dX12_task_38 : decode cX12_task 38 = .ok (.iconst 0, 1) := by decide +kernel
theorem dX12_task_39 : decode cX12_task 39 = .ok (.iastore, 1) := by decide +kernel
theorem dX12_task_40 : decode cX12_task 40 = .ok (.aload_n 0, 1) := by decide +kernel
theorem dX12_task_41 : decode cX12_task 41 = .ok (.getfield 62, 3) := by decide +kernel
theorem dX12_task_44 : decode cX12_task 44 = .ok (.iconst 1, 1) := by decide +kernel
theorem dX12_task_45 : decode cX12_task 45 = .ok (.iconst 0, 1) := by decide +kernel
theorem dX12_task_46 : decode cX12_task 46 = .ok (.iastore, 1) := by decide +kernel
theorem dX12_task_47 : decode cX12_task 47 = .ok (.aload_n 0, 1) := by decide +kernel
theorem dX12_task_48 : decode cX12_task 48 = .ok (.getfield 84, 3) := by decide +kernel
theorem dX12_task_51 : decode cX12_task 51 = .ok (.iconst 1, 1) := by decide +kernel
theorem dX12_task_52 : decode cX12_task 52 = .ok (.iconst 1, 1) := by decide +kernel
theorem dX12_task_53 : decode cX12_task 53 = .ok (.iastore, 1) := by decide +kernel
theorem dX12_task_54 : decode cX12_task 54 = .ok (.iconst 0, 1) := by decide +kernel
theorem dX12_task_55 : decode cX12_task 55 = .ok (.istore_n 1, 1) := by decide +kernel
theorem dX12_task_56 : decode cX12_task 56 = .ok (.aload_n 0, 1) := by decide +kernel
theorem dX12_task_57 : decode cX12_task 57 = .ok (.invokevirtual 231, 3) := by decide +kernel
theorem dX12_task_60 : decode cX12_task 60 = .ok (.ifCond .eq 22, 3) := by decide +kernel
theorem dX12_task_63 : decode cX12_task 63 = .ok (.aload_n 0, 1) := by decide +kernel
theorem dX12_task_64 : decode cX12_task 64 = .ok (.invokevirtual 235, 3) := by decide +kernel
theorem dX12_task_67 : decode cX12_task 67 = .ok (.iconst (-1), 1) := by decide +kernel
theorem dX12_task_68 : decode cX12_task 68 = .ok (.if_icmp .eq 14, 3) := by decide +kernel
theorem dX12_task_71 : decode cX12_task 71 = .ok (.aload_n 0, 1) := by decide +kernel
theorem dX12_task_72 : decode cX12_task 72 = .ok (.iload_n 1, 1) := by decide +kernel
theorem dX12_task_73 : decode cX12_task 73 = .ok (.invokevirtual 346, 3) := by decide +kernel
theorem dX12_task_76 : decode cX12_task 76 = .ok (.iinc 1 1, 3) := by decide +kernel
theorem dX12_task_79 : decode cX12_task 79 = .ok (.goto (-23), 3) := by decide +kernel
theorem dX12_task_82 : decode cX12_task 82 = .ok (.aload_n 0, 1) := by decide +kernel
theorem dX12_task_83 : decode cX12_task 83 = .ok (.invokevirtual 231, 3) := by decide +kernel
theorem dX12_task_86 : decode cX12_task 86 = .ok (.ifCond .eq 30, 3) := by decide +kernel
theorem dX12_task_89 : decode cX12_task 89 = .ok (.aload_n 0, 1) := by decide +kernel
theorem dX12_task_90 : decode cX12_task 90 = .ok (.getfield 47, 3) := by decide +kernel
theorem dX12_task_93 : decode cX12_task 93 = .ok (.iconst 1, 1) := by decide +kernel
theorem dX12_task_94 : decode cX12_task 94 = .ok (.iaload, 1) := by decide +kernel
theorem dX12_task_95 : decode cX12_task 95 = .ok (.ifCond .eq 12, 3) := by decide +kernel
theorem dX12_task_98 : decode cX12_task 98 = .ok (.aload_n 0, 1) := by decide +kernel
theorem dX12_task_99 : decode cX12_task 99 = .ok (.getfield 62, 3) := by decide +kernel
theorem dX12_task_102 : decode cX12_task 102 = .ok (.iconst 1, 1) := by decide +kernel
theorem dX12_task_103 : decode cX12_task 103 = .ok (.iaload, 1) := by decide +kernel
theorem dX12_task_104 : decode cX12_task 104 = .ok (.ifCond .ne 12, 3) := by decide +kernel
theorem dX12_task_107 : decode cX12_task 107 = .ok (.aload_n 0, 1) := by decide +kernel
theorem dX12_task_108 : decode cX12_task 108 = .ok (.iconst 4, 1) := by decide +kernel
theorem dX12_task_109 : decode cX12_task 109 = .ok (.aload_n 0, 1) := by decide +kernel
theorem dX12_task_110 : decode cX12_task 110 = .ok (.getfield 26, 3) := by decide +kernel
theorem dX12_task_113 : decode cX12_task 113 = .ok (.invokevirtual 239, 3) := by decide +kernel
theorem dX12_task_116 : decode cX12_task 116 = .ok (.aload_n 0, 1) := by decide +kernel
theorem dX12_task_117 : decode cX12_task 117 = .ok (.iconst 0, 1) := by decide +kernel
theorem dX12_task_118 : decode cX12_task 118 = .ok (.putfield 44, 3) := by decide +kernel
theorem dX12_task_121 : decode cX12_task 121 = .ok (.aload_n 0, 1) := by decide +kernel
theorem dX12_task_122 : decode cX12_task 122 = .ok (.aload_n 0, 1) := by decide +kernel
theorem dX12_task_123 : decode cX12_task 123 = .ok (.getfield 35, 3) := by decide +kernel
theorem dX12_task_126 : decode cX12_task 126 = .ok (.putfield 20, 3) := by decide +kernel
theorem dX12_task_129 : decode cX12_task 129 = .ok (.aload_n 0, 1) := by decide +kernel
theorem dX12_task_130 : decode cX12_task 130 = .ok (.aload_n 0, 1) := by decide +kernel
theorem dX12_task_131 : decode cX12_task 131 = .ok (.getfield 38, 3) := by decide +kernel
theorem dX12_task_134 : decode cX12_task 134 = .ok (.putfield 23, 3) := by decide +kernel
theorem dX12_task_137 : decode cX12_task 137 = .ok (.aload_n 0, 1) := by decide +kernel
theorem dX12_task_138 : decode cX12_task 138 = .ok (.getfield 35, 3) := by decide +kernel
theorem dX12_task_141 : decode cX12_task 141 = .ok (.ifCond .eq 9, 3) := by decide +kernel
theorem dX12_task_144 : decode cX12_task 144 = .ok (.aload_n 0, 1) := by decide +kernel
theorem dX12_task_145 : decode cX12_task 145 = .ok (.iconst 1, 1) := by decide +kernel
theorem dX12_task_146 : decode cX12_task 146 = .ok (.invokevirtual 216, 3) := by decide +kernel
theorem dX12_task_149 : decode cX12_task 149 = .ok (.ireturn, 1) := by decide +kernel
theorem dX12_task_150 : decode cX12_task 150 = .ok (.aload_n 0, 1) := by decide +kernel
theorem dX12_task_151 : decode cX12_task 151 = .ok (.invokevirtual 349, 3) := by decide +kernel
theorem dX12_task_154 : decode cX12_task 154 = .ok (.aload_n 0, 1) := by decide +kernel
theorem dX12_task_155 : decode cX12_task 155 = .ok (.invokevirtual 352, 3) := by decide +kernel
theorem dX12_task_158 : decode cX12_task 158 = .ok (.aload_n 0, 1) := by decide +kernel
theorem dX12_task_159 : decode cX12_task 159 = .ok (.iconst (-1), 1) := by decide +kernel
theorem dX12_task_160 : decode cX12_task 160 = .ok (.putfield 189, 3) := by decide +kernel
theorem dX12_task_163 : decode cX12_task 163 = .ok (.aload_n 0, 1) := by decide +kernel
theorem dX12_task_164 : decode cX12_task 164 = .ok (.iconst (-1), 1) := by decide +kernel
theorem dX12_task_165 : decode cX12_task 165 = .ok (.putfield 192, 3) := by decide +kernel
theorem dX12_task_168 : decode cX12_task 168 = .ok (.aload_n 0, 1) := by decide +kernel
theorem dX12_task_169 : decode cX12_task 169 = .ok (.getfield 62, 3) := by decide +kernel
theorem dX12_task_172 : decode cX12_task 172 = .ok (.iconst 0, 1) := by decide +kernel
theorem dX12_task_173 : decode cX12_task 173 = .ok (.iaload, 1) := by decide +kernel
theorem dX12_task_174 : decode cX12_task 174 = .ok (.ireturn, 1) := by decide +kernel
theorem dX12_fault_0 : decode cX12_fault 0 = .ok (.iload_n 1, 1) := by decide +kernel
theorem dX12_fault_1 : decode cX12_fault 1 = .ok (.ifCond .ne 10, 3) := by decide +kernel
theorem dX12_fault_4 : decode cX12_fault 4 = .ok (.aload_n 0, 1) := by decide +kernel
theorem dX12_fault_5 : decode cX12_fault 5 = .ok (.getfield 20, 3) := by decide +kernel
theorem dX12_fault_8 : decode cX12_fault 8 = .ok (.goto 16, 3) := by decide +kernel
theorem dX12_fault_11 : decode cX12_fault 11 = .ok (.iload_n 1, 1) := by decide +kernel
theorem dX12_fault_12 : decode cX12_fault 12 = .ok (.iconst 1, 1) := by decide +kernel
theorem dX12_fault_13 : decode cX12_fault 13 = .ok (.if_icmp .ne 10, 3) := by decide +kernel
theorem dX12_fault_16 : decode cX12_fault 16 = .ok (.aload_n 0, 1) := by decide +kernel
theorem dX12_fault_17 : decode cX12_fault 17 = .ok (.getfield 23, 3) := by decide +kernel
theorem dX12_fault_20 : decode cX12_fault 20 = .ok (.goto 4, 3) := by decide +kernel
theorem dX12_fault_23 : decode cX12_fault 23 = .ok (.iconst (-1), 1) := by decide +kernel
theorem dX12_fault_24 : decode cX12_fault 24 = .ok (.ireturn, 1) := by decide +kernel
theorem dX12_isNumber_0 : decode cX12_isNumber 0 = .ok (.iload_n 1, 1) := by decide +kernel
theorem dX12_isNumber_1 : decode cX12_isNumber 1 = .ok (.i2l, 1) := by decide +kernel
theorem dX12_isNumber_2 : decode cX12_isNumber 2 = .ok (.lconst 0, 1) := by decide +kernel
theorem dX12_isNumber_3 : decode cX12_isNumber 3 = .ok (.aload_n 0, 1) := by decide +kernel
theorem dX12_isNumber_4 : decode cX12_isNumber 4 = .ok (.getfield 62, 3) := by decide +kernel
theorem dX12_isNumber_7 : decode cX12_isNumber 7 = .ok (.iconst 0, 1) := by decide +kernel
theorem dX12_isNumber_8 : decode cX12_isNumber 8 = .ok (.iaload, 1) := by decide +kernel
theorem dX12_isNumber_9 : decode cX12_isNumber 9 = .ok (.i2l, 1) := by decide +kernel
theorem dX12_isNumber_10 : decode cX12_isNumber 10 = .ok (.lconst 1, 1) := by decide +kernel
theorem dX12_isNumber_11 : decode cX12_isNumber 11 = .ok (.lsub, 1) := by decide +kernel
theorem dX12_isNumber_12 : decode cX12_isNumber 12 = .ok (.invokestatic 263, 3) := by decide +kernel
theorem dX12_isNumber_15 : decode cX12_isNumber 15 = .ok (.ireturn, 1) := by decide +kernel
theorem dX12_isFormat_0 : decode cX12_isFormat 0 = .ok (.iload_n 1, 1) := by decide +kernel
theorem dX12_isFormat_1 : decode cX12_isFormat 1 = .ok (.i2l, 1) := by decide +kernel
theorem dX12_isFormat_2 : decode cX12_isFormat 2 = .ok (.lconst 0, 1) := by decide +kernel
theorem dX12_isFormat_3 : decode cX12_isFormat 3 = .ok (.aload_n 0, 1) := by decide +kernel
theorem dX12_isFormat_4 : decode cX12_isFormat 4 = .ok (.getfield 47, 3) := by decide +kernel
theorem dX12_isFormat_7 : decode cX12_isFormat 7 = .ok (.iconst 0, 1) := by decide +kernel
theorem dX12_isFormat_8 : decode cX12_isFormat 8 = .ok (.iaload, 1) := by decide +kernel
theorem dX12_isFormat_9 : decode cX12_isFormat 9 = .ok (.i2l, 1) := by decide +kernel
theorem dX12_isFormat_10 : decode cX12_isFormat 10 = .ok (.lconst 1, 1) := by decide +kernel
theorem dX12_isFormat_11 : decode cX12_isFormat 11 = .ok (.lsub, 1) := by decide +kernel
theorem dX12_isFormat_12 : decode cX12_isFormat 12 = .ok (.invokestatic 263, 3) := by decide +kernel
theorem dX12_isFormat_15 : decode cX12_isFormat 15 = .ok (.ireturn, 1) := by decide +kernel
theorem dX12_inputs_0 : decode cX12_inputs 0 = .ok (.iconst 0, 1) := by decide +kernel
theorem dX12_inputs_1 : decode cX12_inputs 1 = .ok (.istore_n 1, 1) := by decide +kernel
theorem dX12_inputs_2 : decode cX12_inputs 2 = .ok (.iconst 0, 1) := by decide +kernel
theorem dX12_inputs_3 : decode cX12_inputs 3 = .ok (.istore_n 2, 1) := by decide +kernel
theorem dX12_inputs_4 : decode cX12_inputs 4 = .ok (.iload_n 2, 1) := by decide +kernel
theorem dX12_inputs_5 : decode cX12_inputs 5 = .ok (.aload_n 0, 1) := by decide +kernel
theorem dX12_inputs_6 : decode cX12_inputs 6 = .ok (.getfield 62, 3) := by decide +kernel
theorem dX12_inputs_9 : decode cX12_inputs 9 = .ok (.iconst 0, 1) := by decide +kernel
theorem dX12_inputs_10 : decode cX12_inputs 10 = .ok (.iaload, 1) := by decide +kernel
theorem dX12_inputs_11 : decode cX12_inputs 11 = .ok (.if_icmp .ge 26, 3) := by decide +kernel
theorem dX12_inputs_14 : decode cX12_inputs 14 = .ok (.iload_n 1, 1) := by decide +kernel
theorem dX12_inputs_15 : decode cX12_inputs 15 = .ok (.aload_n 0, 1) := by decide +kernel
theorem dX12_inputs_16 : decode cX12_inputs 16 = .ok (.getfield 68, 3) := by decide +kernel
theorem dX12_inputs_19 : decode cX12_inputs 19 = .ok (.iload_n 2, 1) := by decide +kernel
theorem dX12_inputs_20 : decode cX12_inputs 20 = .ok (.iaload, 1) := by decide +kernel
theorem dX12_inputs_21 : decode cX12_inputs 21 = .ok (.ifCond .ne 7, 3) := by decide +kernel
theorem dX12_inputs_24 : decode cX12_inputs 24 = .ok (.iconst 1, 1) := by decide +kernel
theorem dX12_inputs_25 : decode cX12_inputs 25 = .ok (.goto 4, 3) := by decide +kernel
theorem dX12_inputs_28 : decode cX12_inputs 28 = .ok (.iconst 0, 1) := by decide +kernel
theorem dX12_inputs_29 : decode cX12_inputs 29 = .ok (.iadd, 1) := by decide +kernel
theorem dX12_inputs_30 : decode cX12_inputs 30 = .ok (.istore_n 1, 1) := by decide +kernel
theorem dX12_inputs_31 : decode cX12_inputs 31 = .ok (.iinc 2 1, 3) := by decide +kernel
theorem dX12_inputs_34 : decode cX12_inputs 34 = .ok (.goto (-30), 3) := by decide +kernel
theorem dX12_inputs_37 : decode cX12_inputs 37 = .ok (.iload_n 1, 1) := by decide +kernel
theorem dX12_inputs_38 : decode cX12_inputs 38 = .ok (.ireturn, 1) := by decide +kernel
theorem dX12_answers_0 : decode cX12_answers 0 = .ok (.iconst 0, 1) := by decide +kernel
theorem dX12_answers_1 : decode cX12_answers 1 = .ok (.istore_n 1, 1) := by decide +kernel
theorem dX12_answers_2 : decode cX12_answers 2 = .ok (.iconst 0, 1) := by decide +kernel
theorem dX12_answers_3 : decode cX12_answers 3 = .ok (.istore_n 2, 1) := by decide +kernel
theorem dX12_answers_4 : decode cX12_answers 4 = .ok (.iload_n 2, 1) := by decide +kernel
theorem dX12_answers_5 : decode cX12_answers 5 = .ok (.aload_n 0, 1) := by decide +kernel
theorem dX12_answers_6 : decode cX12_answers 6 = .ok (.getfield 62, 3) := by decide +kernel
theorem dX12_answers_9 : decode cX12_answers 9 = .ok (.iconst 0, 1) := by decide +kernel
theorem dX12_answers_10 : decode cX12_answers 10 = .ok (.iaload, 1) := by decide +kernel
theorem dX12_answers_11 : decode cX12_answers 11 = .ok (.if_icmp .ge 27, 3) := by decide +kernel
theorem dX12_answers_14 : decode cX12_answers 14 = .ok (.iload_n 1, 1) := by decide +kernel
theorem dX12_answers_15 : decode cX12_answers 15 = .ok (.aload_n 0, 1) := by decide +kernel
theorem dX12_answers_16 : decode cX12_answers 16 = .ok (.getfield 90, 3) := by decide +kernel
theorem dX12_answers_19 : decode cX12_answers 19 = .ok (.iload_n 2, 1) := by decide +kernel
theorem dX12_answers_20 : decode cX12_answers 20 = .ok (.iaload, 1) := by decide +kernel
theorem dX12_answers_21 : decode cX12_answers 21 = .ok (.iconst (-1), 1) := by decide +kernel
theorem dX12_answers_22 : decode cX12_answers 22 = .ok (.if_icmp .ne 7, 3) := by decide +kernel
theorem dX12_answers_25 : decode cX12_answers 25 = .ok (.iconst 0, 1) := by decide +kernel
theorem dX12_answers_26 : decode cX12_answers 26 = .ok (.goto 4, 3) := by decide +kernel
theorem dX12_answers_29 : decode cX12_answers 29 = .ok (.iconst 1, 1) := by decide +kernel
theorem dX12_answers_30 : decode cX12_answers 30 = .ok (.iadd, 1) := by decide +kernel
theorem dX12_answers_31 : decode cX12_answers 31 = .ok (.istore_n 1, 1) := by decide +kernel
theorem dX12_answers_32 : decode cX12_answers 32 = .ok (.iinc 2 1, 3) := by decide +kernel
theorem dX12_answers_35 : decode cX12_answers 35 = .ok (.goto (-31), 3) := by decide +kernel
theorem dX12_answers_38 : decode cX12_answers 38 = .ok (.iload_n 1, 1) := by decide +kernel
theorem dX12_answers_39 : decode cX12_answers 39 = .ok (.ireturn, 1) := by decide +kernel
theorem dX12_groups_0 : decode cX12_groups 0 = .ok (.iconst 0, 1) := by decide +kernel
theorem dX12_groups_1 : decode cX12_groups 1 = .ok (.istore_n 1, 1) := by decide +kernel
theorem dX12_groups_2 : decode cX12_groups 2 = .ok (.iconst 0, 1) := by decide +kernel
theorem dX12_groups_3 : decode cX12_groups 3 = .ok (.istore_n 2, 1) := by decide +kernel
theorem dX12_groups_4 : decode cX12_groups 4 = .ok (.iload_n 2, 1) := by decide +kernel
theorem dX12_groups_5 : decode cX12_groups 5 = .ok (.aload_n 0, 1) := by decide +kernel
theorem dX12_groups_6 : decode cX12_groups 6 = .ok (.getfield 62, 3) := by decide +kernel
theorem dX12_groups_9 : decode cX12_groups 9 = .ok (.iconst 0, 1) := by decide +kernel
theorem dX12_groups_10 : decode cX12_groups 10 = .ok (.iaload, 1) := by decide +kernel
theorem dX12_groups_11 : decode cX12_groups 11 = .ok (.if_icmp .ge 27, 3) := by decide +kernel
theorem dX12_groups_14 : decode cX12_groups 14 = .ok (.iload_n 1, 1) := by decide +kernel
theorem dX12_groups_15 : decode cX12_groups 15 = .ok (.aload_n 0, 1) := by decide +kernel
theorem dX12_groups_16 : decode cX12_groups 16 = .ok (.getfield 93, 3) := by decide +kernel
theorem dX12_groups_19 : decode cX12_groups 19 = .ok (.iload_n 2, 1) := by decide +kernel
theorem dX12_groups_20 : decode cX12_groups 20 = .ok (.iaload, 1) := by decide +kernel
theorem dX12_groups_21 : decode cX12_groups 21 = .ok (.iload_n 2, 1) := by decide +kernel
theorem dX12_groups_22 : decode cX12_groups 22 = .ok (.if_icmp .ne 7, 3) := by decide +kernel
theorem dX12_groups_25 : decode cX12_groups 25 = .ok (.iconst 1, 1) := by decide +kernel
theorem dX12_groups_26 : decode cX12_groups 26 = .ok (.goto 4, 3) := by decide +kernel
theorem dX12_groups_29 : decode cX12_groups 29 = .ok (.iconst 0, 1) := by decide +kernel
theorem dX12_groups_30 : decode cX12_groups 30 = .ok (.iadd, 1) := by decide +kernel
theorem dX12_groups_31 : decode cX12_groups 31 = .ok (.istore_n 1, 1) := by decide +kernel
theorem dX12_groups_32 : decode cX12_groups 32 = .ok (.iinc 2 1, 3) := by decide +kernel
theorem dX12_groups_35 : decode cX12_groups 35 = .ok (.goto (-31), 3) := by decide +kernel
theorem dX12_groups_38 : decode cX12_groups 38 = .ok (.iload_n 1, 1) := by decide +kernel
theorem dX12_groups_39 : decode cX12_groups 39 = .ok (.ireturn, 1) := by decide +kernel
theorem dX12_isFree_0 : decode cX12_isFree 0 = .ok (.iconst 0, 1) := by decide +kernel
theorem dX12_isFree_1 : decode cX12_isFree 1 = .ok (.istore_n 2, 1) := by decide +kernel
theorem dX12_isFree_2 : decode cX12_isFree 2 = .ok (.iload_n 2, 1) := by decide +kernel
theorem dX12_isFree_3 : decode cX12_isFree 3 = .ok (.aload_n 0, 1) := by decide +kernel
theorem dX12_isFree_4 : decode cX12_isFree 4 = .ok (.getfield 62, 3) := by decide +kernel
theorem dX12_isFree_7 : decode cX12_isFree 7 = .ok (.iconst 0, 1) := by decide +kernel
theorem dX12_isFree_8 : decode cX12_isFree 8 = .ok (.iaload, 1) := by decide +kernel
theorem dX12_isFree_9 : decode cX12_isFree 9 = .ok (.if_icmp .ge 31, 3) := by decide +kernel
theorem dX12_isFree_12 : decode cX12_isFree 12 = .ok (.aload_n 0, 1) := by decide +kernel
theorem dX12_isFree_13 : decode cX12_isFree 13 = .ok (.getfield 93, 3) := by decide +kernel
theorem dX12_isFree_16 : decode cX12_isFree 16 = .ok (.iload_n 2, 1) := by decide +kernel
theorem dX12_isFree_17 : decode cX12_isFree 17 = .ok (.iaload, 1) := by decide +kernel
theorem dX12_isFree_18 : decode cX12_isFree 18 = .ok (.iload_n 1, 1) := by decide +kernel
theorem dX12_isFree_19 : decode cX12_isFree 19 = .ok (.if_icmp .ne 15, 3) := by decide +kernel
theorem dX12_isFree_22 : decode cX12_isFree 22 = .ok (.aload_n 0, 1) := by decide +kernel
theorem dX12_isFree_23 : decode cX12_isFree 23 = .ok (.getfield 87, 3) := by decide +kernel
theorem dX12_isFree_26 : decode cX12_isFree 26 = .ok (.iload_n 2, 1) := by decide +kernel
theorem dX12_isFree_27 : decode cX12_isFree 27 = .ok (.iaload, 1) := by decide +kernel
theorem dX12_isFree_28 : decode cX12_isFree 28 = .ok (.iconst (-1), 1) := by decide +kernel
theorem dX12_isFree_29 : decode cX12_isFree 29 = .ok (.if_icmp .eq 5, 3) := by decide +kernel
theorem dX12_isFree_32 : decode cX12_isFree 32 = .ok (.iconst 0, 1) := by decide +kernel
theorem dX12_isFree_33 : decode cX12_isFree 33 = .ok (.ireturn, 1) := by decide +kernel
theorem dX12_isFree_34 : decode cX12_isFree 34 = .ok (.iinc 2 1, 3) := by decide +kernel
theorem dX12_isFree_37 : decode cX12_isFree 37 = .ok (.goto (-35), 3) := by decide +kernel
theorem dX12_isFree_40 : decode cX12_isFree 40 = .ok (.iconst 1, 1) := by decide +kernel
theorem dX12_isFree_41 : decode cX12_isFree 41 = .ok (.ireturn, 1) := by decide +kernel
theorem dX12_laysFree_0 : decode cX12_laysFree 0 = .ok (.aload_n 0, 1) := by decide +kernel
theorem dX12_laysFree_1 : decode cX12_laysFree 1 = .ok (.iconst 0, 1) := by decide +kernel
theorem dX12_laysFree_2 : decode cX12_laysFree 2 = .ok (.putfield 103, 3) := by decide +kernel
theorem dX12_laysFree_5 : decode cX12_laysFree 5 = .ok (.iconst 0, 1) := by decide +kernel
theorem dX12_laysFree_6 : decode cX12_laysFree 6 = .ok (.istore_n 1, 1) := by decide +kernel
theorem dX12_laysFree_7 : decode cX12_laysFree 7 = .ok (.iload_n 1, 1) := by decide +kernel
theorem dX12_laysFree_8 : decode cX12_laysFree 8 = .ok (.aload_n 0, 1) := by decide +kernel
theorem dX12_laysFree_9 : decode cX12_laysFree 9 = .ok (.getfield 62, 3) := by decide +kernel
theorem dX12_laysFree_12 : decode cX12_laysFree 12 = .ok (.iconst 0, 1) := by decide +kernel
theorem dX12_laysFree_13 : decode cX12_laysFree 13 = .ok (.iaload, 1) := by decide +kernel
theorem dX12_laysFree_14 : decode cX12_laysFree 14 = .ok (.if_icmp .ge 50, 3) := by decide +kernel
theorem dX12_laysFree_17 : decode cX12_laysFree 17 = .ok (.aload_n 0, 1) := by decide +kernel
theorem dX12_laysFree_18 : decode cX12_laysFree 18 = .ok (.getfield 93, 3) := by decide +kernel
theorem dX12_laysFree_21 : decode cX12_laysFree 21 = .ok (.iload_n 1, 1) := by decide +kernel
theorem dX12_laysFree_22 : decode cX12_laysFree 22 = .ok (.iaload, 1) := by decide +kernel
theorem dX12_laysFree_23 : decode cX12_laysFree 23 = .ok (.iload_n 1, 1) := by decide +kernel
theorem dX12_laysFree_24 : decode cX12_laysFree 24 = .ok (.if_icmp .ne 34, 3) := by decide +kernel
theorem dX12_laysFree_27 : decode cX12_laysFree 27 = .ok (.aload_n 0, 1) := by decide +kernel
theorem dX12_laysFree_28 : decode cX12_laysFree 28 = .ok (.iload_n 1, 1) := by decide +kernel
theorem dX12_laysFree_29 : decode cX12_laysFree 29 = .ok (.invokevirtual 355, 3) := by decide +kernel
theorem dX12_laysFree_32 : decode cX12_laysFree 32 = .ok (.ifCond .ne 6, 3) := by decide +kernel
theorem dX12_laysFree_35 : decode cX12_laysFree 35 = .ok (.goto 23, 3) := by decide +kernel
theorem dX12_laysFree_38 : decode cX12_laysFree 38 = .ok (.aload_n 0, 1) := by decide +kernel
theorem dX12_laysFree_39 : decode cX12_laysFree 39 = .ok (.getfield 100, 3) := by decide +kernel
theorem dX12_laysFree_42 : decode cX12_laysFree 42 = .ok (.aload_n 0, 1) := by decide +kernel
theorem dX12_laysFree_43 : decode cX12_laysFree 43 = .ok (.getfield 103, 3) := by decide +kernel
theorem dX12_laysFree_46 : decode cX12_laysFree 46 = .ok (.iload_n 1, 1) := by decide +kernel
theorem dX12_laysFree_47 : decode cX12_laysFree 47 = .ok (.iastore, 1) := by decide +kernel
theorem dX12_laysFree_48 : decode cX12_laysFree 48 = .ok (.aload_n 0, 1) := by decide +kernel
theorem dX12_laysFree_49 : decode cX12_laysFree 49 = .ok (.dup, 1) := by decide +kernel
theorem dX12_laysFree_50 : decode cX12_laysFree 50 = .ok (.getfield 103, 3) := by decide +kernel
theorem dX12_laysFree_53 : decode cX12_laysFree 53 = .ok (.iconst 1, 1) := by decide +kernel
theorem dX12_laysFree_54 : decode cX12_laysFree 54 = .ok (.iadd, 1) := by decide +kernel
theorem dX12_laysFree_55 : decode cX12_laysFree 55 = .ok (.putfield 103, 3) := by decide +kernel
theorem dX12_laysFree_58 : decode cX12_laysFree 58 = .ok (.iinc 1 1, 3) := by decide +kernel
theorem dX12_laysFree_61 : decode cX12_laysFree 61 = .ok (.goto (-54), 3) := by decide +kernel
theorem dX12_laysFree_64 : decode cX12_laysFree 64 = .ok (.return_, 1) := by decide +kernel
theorem dX12_has_0 : decode cX12_has 0 = .ok (.aload_n 0, 1) := by decide +kernel
theorem dX12_has_1 : decode cX12_has 1 = .ok (.invokevirtual 358, 3) := by decide +kernel
theorem dX12_has_4 : decode cX12_has 4 = .ok (.iload_n 1, 1) := by decide +kernel
theorem dX12_has_5 : decode cX12_has 5 = .ok (.tableswitch 106 0 7 #[47, 54, 61, 66, 71, 76, 81, 101], 47) := by decide +kernel
theorem dX12_has_52 : decode cX12_has 52 = .ok (.aload_n 0, 1) := by decide +kernel
theorem dX12_has_53 : decode cX12_has 53 = .ok (.getfield 62, 3) := by decide +kernel
theorem dX12_has_56 : decode cX12_has 56 = .ok (.iconst 0, 1) := by decide +kernel
theorem dX12_has_57 : decode cX12_has 57 = .ok (.iaload, 1) := by decide +kernel
theorem dX12_has_58 : decode cX12_has 58 = .ok (.ireturn, 1) := by decide +kernel
theorem dX12_has_59 : decode cX12_has 59 = .ok (.aload_n 0, 1) := by decide +kernel
theorem dX12_has_60 : decode cX12_has 60 = .ok (.getfield 47, 3) := by decide +kernel
theorem dX12_has_63 : decode cX12_has 63 = .ok (.iconst 0, 1) := by decide +kernel
theorem dX12_has_64 : decode cX12_has 64 = .ok (.iaload, 1) := by decide +kernel
theorem dX12_has_65 : decode cX12_has 65 = .ok (.ireturn, 1) := by decide +kernel
theorem dX12_has_66 : decode cX12_has 66 = .ok (.aload_n 0, 1) := by decide +kernel
theorem dX12_has_67 : decode cX12_has 67 = .ok (.invokevirtual 361, 3) := by decide +kernel
theorem dX12_has_70 : decode cX12_has 70 = .ok (.ireturn, 1) := by decide +kernel
theorem dX12_has_71 : decode cX12_has 71 = .ok (.aload_n 0, 1) := by decide +kernel
theorem dX12_has_72 : decode cX12_has 72 = .ok (.invokevirtual 364, 3) := by decide +kernel
theorem dX12_has_75 : decode cX12_has 75 = .ok (.ireturn, 1) := by decide +kernel
theorem dX12_has_76 : decode cX12_has 76 = .ok (.aload_n 0, 1) := by decide +kernel
theorem dX12_has_77 : decode cX12_has 77 = .ok (.invokevirtual 367, 3) := by decide +kernel
theorem dX12_has_80 : decode cX12_has 80 = .ok (.ireturn, 1) := by decide +kernel
theorem dX12_has_81 : decode cX12_has 81 = .ok (.aload_n 0, 1) := by decide +kernel
theorem dX12_has_82 : decode cX12_has 82 = .ok (.getfield 103, 3) := by decide +kernel
theorem dX12_has_85 : decode cX12_has 85 = .ok (.ireturn, 1) := by decide +kernel
theorem dX12_has_86 : decode cX12_has 86 = .ok (.aload_n 0, 1) := by decide +kernel
theorem dX12_has_87 : decode cX12_has 87 = .ok (.getfield 62, 3) := by decide +kernel
theorem dX12_has_90 : decode cX12_has 90 = .ok (.iconst 0, 1) := by decide +kernel
theorem dX12_has_91 : decode cX12_has 91 = .ok (.iaload, 1) := by decide +kernel
theorem dX12_has_92 : decode cX12_has 92 = .ok (.ifCond .ne 7, 3) := by decide +kernel
theorem dX12_has_95 : decode cX12_has 95 = .ok (.iconst 0, 1) := by decide +kernel
theorem dX12_has_96 : decode cX12_has 96 = .ok (.goto 9, 3) := by decide +kernel
theorem dX12_has_99 : decode cX12_has 99 = .ok (.aload_n 0, 1) := by decide +kernel
theorem dX12_has_100 : decode cX12_has 100 = .ok (.getfield 84, 3) := by decide +kernel
theorem dX12_has_103 : decode cX12_has 103 = .ok (.iconst 0, 1) := by decide +kernel
theorem dX12_has_104 : decode cX12_has 104 = .ok (.iaload, 1) := by decide +kernel
theorem dX12_has_105 : decode cX12_has 105 = .ok (.ireturn, 1) := by decide +kernel
theorem dX12_has_106 : decode cX12_has 106 = .ok (.aload_n 0, 1) := by decide +kernel
theorem dX12_has_107 : decode cX12_has 107 = .ok (.getfield 207, 3) := by decide +kernel
theorem dX12_has_110 : decode cX12_has 110 = .ok (.ireturn, 1) := by decide +kernel
theorem dX12_has_111 : decode cX12_has 111 = .ok (.iconst (-1), 1) := by decide +kernel
theorem dX12_has_112 : decode cX12_has 112 = .ok (.ireturn, 1) := by decide +kernel
theorem dX12_letter_0 : decode cX12_letter 0 = .ok (.iload_n 2, 1) := by decide +kernel
theorem dX12_letter_1 : decode cX12_letter 1 = .ok (.ifCond .eq 11, 3) := by decide +kernel
theorem dX12_letter_4 : decode cX12_letter 4 = .ok (.aload_n 0, 1) := by decide +kernel
theorem dX12_letter_5 : decode cX12_letter 5 = .ok (.iload_n 1, 1) := by decide +kernel
theorem dX12_letter_6 : decode cX12_letter 6 = .ok (.invokevirtual 370, 3) := by decide +kernel
theorem dX12_letter_9 : decode cX12_letter 9 = .ok (.goto 8, 3) := by decide +kernel
theorem dX12_letter_12 : decode cX12_letter 12 = .ok (.aload_n 0, 1) := by decide +kernel
theorem dX12_letter_13 : decode cX12_letter 13 = .ok (.iload_n 1, 1) := by decide +kernel
theorem dX12_letter_14 : decode cX12_letter 14 = .ok (.invokevirtual 373, 3) := by decide +kernel
theorem dX12_letter_17 : decode cX12_letter 17 = .ok (.istore 4, 2) := by decide +kernel
theorem dX12_letter_19 : decode cX12_letter 19 = .ok (.iload 4, 2) := by decide +kernel
theorem dX12_letter_21 : decode cX12_letter 21 = .ok (.ifCond .eq 15, 3) := by decide +kernel
theorem dX12_letter_24 : decode cX12_letter 24 = .ok (.iload_n 3, 1) := by decide +kernel
theorem dX12_letter_25 : decode cX12_letter 25 = .ok (.i2l, 1) := by decide +kernel
theorem dX12_letter_26 : decode cX12_letter 26 = .ok (.lconst 0, 1) := by decide +kernel
theorem dX12_letter_27 : decode cX12_letter 27 = .ok (.ldc2_w 376, 3) := by decide +kernel
theorem dX12_letter_30 : decode cX12_letter 30 = .ok (.invokestatic 263, 3) := by decide +kernel
theorem dX12_letter_33 : decode cX12_letter 33 = .ok (.ifCond .ne 5, 3) := by decide +kernel
theorem dX12_letter_36 : decode cX12_letter 36 = .ok (.iconst (-1), 1) := by decide +kernel
theorem dX12_letter_37 : decode cX12_letter 37 = .ok (.ireturn, 1) := by decide +kernel
theorem dX12_letter_38 : decode cX12_letter 38 = .ok (.iload_n 2, 1) := by decide +kernel
theorem dX12_letter_39 : decode cX12_letter 39 = .ok (.ifCond .eq 12, 3) := by decide +kernel
theorem dX12_letter_42 : decode cX12_letter 42 = .ok (.aload_n 0, 1) := by decide +kernel
theorem dX12_letter_43 : decode cX12_letter 43 = .ok (.getfield 50, 3) := by decide +kernel
theorem dX12_letter_46 : decode cX12_letter 46 = .ok (.iload_n 1, 1) := by decide +kernel
theorem dX12_letter_47 : decode cX12_letter 47 = .ok (.iaload, 1) := by decide +kernel
theorem dX12_letter_48 : decode cX12_letter 48 = .ok (.goto 9, 3) := by decide +kernel
theorem dX12_letter_51 : decode cX12_letter 51 = .ok (.aload_n 0, 1) := by decide +kernel
theorem dX12_letter_52 : decode cX12_letter 52 = .ok (.getfield 65, 3) := by decide +kernel
theorem dX12_letter_55 : decode cX12_letter 55 = .ok (.iload_n 1, 1) := by decide +kernel
theorem dX12_letter_56 : decode cX12_letter 56 = .ok (.iaload, 1) := by decide +kernel
theorem dX12_letter_57 : decode cX12_letter 57 = .ok (.iconst 5, 1) := by decide +kernel
theorem dX12_letter_58 : decode cX12_letter 58 = .ok (.iload_n 3, 1) := by decide +kernel
theorem dX12_letter_59 : decode cX12_letter 59 = .ok (.imul, 1) := by decide +kernel
theorem dX12_letter_60 : decode cX12_letter 60 = .ok (.ishr, 1) := by decide +kernel
theorem dX12_letter_61 : decode cX12_letter 61 = .ok (.bipush 31, 2) := by decide +kernel
theorem dX12_letter_63 : decode cX12_letter 63 = .ok (.iand, 1) := by decide +kernel
theorem dX12_letter_64 : decode cX12_letter 64 = .ok (.ireturn, 1) := by decide +kernel
theorem dX12_format_0 : decode cX12_format 0 = .ok (.aload_n 0, 1) := by decide +kernel
theorem dX12_format_1 : decode cX12_format 1 = .ok (.iload_n 1, 1) := by decide +kernel
theorem dX12_format_2 : decode cX12_format 2 = .ok (.invokevirtual 370, 3) := by decide +kernel
theorem dX12_format_5 : decode cX12_format 5 = .ok (.ifCond .ne 5, 3) := by decide +kernel
theorem dX12_format_8 : decode cX12_format 8 = .ok (.iconst (-1), 1) := by decide +kernel
theorem dX12_format_9 : decode cX12_format 9 = .ok (.ireturn, 1) := by decide +kernel
theorem dX12_format_10 : decode cX12_format 10 = .ok (.iload_n 2, 1) := by decide +kernel
theorem dX12_format_11 : decode cX12_format 11 = .ok (.ifCond .ne 12, 3) := by decide +kernel
theorem dX12_format_14 : decode cX12_format 14 = .ok (.aload_n 0, 1) := by decide +kernel
theorem dX12_format_15 : decode cX12_format 15 = .ok (.getfield 53, 3) := by decide +kernel
theorem dX12_format_18 : decode cX12_format 18 = .ok (.iload_n 1, 1) := by decide +kernel
theorem dX12_format_19 : decode cX12_format 19 = .ok (.iaload, 1) := by decide +kernel
theorem dX12_format_20 : decode cX12_format 20 = .ok (.goto 32, 3) := by decide +kernel
theorem dX12_format_23 : decode cX12_format 23 = .ok (.iload_n 2, 1) := by decide +kernel
theorem dX12_format_24 : decode cX12_format 24 = .ok (.iconst 1, 1) := by decide +kernel
theorem dX12_format_25 : decode cX12_format 25 = .ok (.if_icmp .ne 12, 3) := by decide +kernel
theorem dX12_format_28 : decode cX12_format 28 = .ok (.aload_n 0, 1) := by decide +kernel
theorem dX12_format_29 : decode cX12_format 29 = .ok (.getfield 56, 3) := by decide +kernel
theorem dX12_format_32 : decode cX12_format 32 = .ok (.iload_n 1, 1) := by decide +kernel
theorem dX12_format_33 : decode cX12_format 33 = .ok (.iaload, 1) := by decide +kernel
theorem dX12_format_34 : decode cX12_format 34 = .ok (.goto 18, 3) := by decide +kernel
theorem dX12_format_37 : decode cX12_format 37 = .ok (.iload_n 2, 1) := by decide +kernel
theorem dX12_format_38 : decode cX12_format 38 = .ok (.iconst 2, 1) := by decide +kernel
theorem dX12_format_39 : decode cX12_format 39 = .ok (.if_icmp .ne 12, 3) := by decide +kernel
theorem dX12_format_42 : decode cX12_format 42 = .ok (.aload_n 0, 1) := by decide +kernel
theorem dX12_format_43 : decode cX12_format 43 = .ok (.getfield 59, 3) := by decide +kernel
theorem dX12_format_46 : decode cX12_format 46 = .ok (.iload_n 1, 1) := by decide +kernel
theorem dX12_format_47 : decode cX12_format 47 = .ok (.iaload, 1) := by decide +kernel
theorem dX12_format_48 : decode cX12_format 48 = .ok (.goto 4, 3) := by decide +kernel
theorem dX12_format_51 : decode cX12_format 51 = .ok (.iconst (-1), 1) := by decide +kernel
theorem dX12_format_52 : decode cX12_format 52 = .ok (.ireturn, 1) := by decide +kernel
theorem dX12_groupPlace_0 : decode cX12_groupPlace 0 = .ok (.iconst 0, 1) := by decide +kernel
theorem dX12_groupPlace_1 : decode cX12_groupPlace 1 = .ok (.istore_n 2, 1) := by decide +kernel
theorem dX12_groupPlace_2 : decode cX12_groupPlace 2 = .ok (.iconst 0, 1) := by decide +kernel
theorem dX12_groupPlace_3 : decode cX12_groupPlace 3 = .ok (.istore_n 3, 1) := by decide +kernel
theorem dX12_groupPlace_4 : decode cX12_groupPlace 4 = .ok (.iload_n 3, 1) := by decide +kernel
theorem dX12_groupPlace_5 : decode cX12_groupPlace 5 = .ok (.aload_n 0, 1) := by decide +kernel
theorem dX12_groupPlace_6 : decode cX12_groupPlace 6 = .ok (.getfield 93, 3) := by decide +kernel
theorem dX12_groupPlace_9 : decode cX12_groupPlace 9 = .ok (.iload_n 1, 1) := by decide +kernel
theorem dX12_groupPlace_10 : decode cX12_groupPlace 10 = .ok (.iaload, 1) := by decide +kernel
theorem dX12_groupPlace_11 : decode cX12_groupPlace 11 = .ok (.if_icmp .ge 27, 3) := by decide +kernel
theorem dX12_groupPlace_14 : decode cX12_groupPlace 14 = .ok (.iload_n 2, 1) := by decide +kernel
theorem dX12_groupPlace_15 : decode cX12_groupPlace 15 = .ok (.aload_n 0, 1) := by decide +kernel
theorem dX12_groupPlace_16 : decode cX12_groupPlace 16 = .ok (.getfield 93, 3) := by decide +kernel
theorem dX12_groupPlace_19 : decode cX12_groupPlace 19 = .ok (.iload_n 3, 1) := by decide +kernel
theorem dX12_groupPlace_20 : decode cX12_groupPlace 20 = .ok (.iaload, 1) := by decide +kernel
theorem dX12_groupPlace_21 : decode cX12_groupPlace 21 = .ok (.iload_n 3, 1) := by decide +kernel
theorem dX12_groupPlace_22 : decode cX12_groupPlace 22 = .ok (.if_icmp .ne 7, 3) := by decide +kernel
theorem dX12_groupPlace_25 : decode cX12_groupPlace 25 = .ok (.iconst 1, 1) := by decide +kernel
theorem dX12_groupPlace_26 : decode cX12_groupPlace 26 = .ok (.goto 4, 3) := by decide +kernel
theorem dX12_groupPlace_29 : decode cX12_groupPlace 29 = .ok (.iconst 0, 1) := by decide +kernel
theorem dX12_groupPlace_30 : decode cX12_groupPlace 30 = .ok (.iadd, 1) := by decide +kernel
theorem dX12_groupPlace_31 : decode cX12_groupPlace 31 = .ok (.istore_n 2, 1) := by decide +kernel
theorem dX12_groupPlace_32 : decode cX12_groupPlace 32 = .ok (.iinc 3 1, 3) := by decide +kernel
theorem dX12_groupPlace_35 : decode cX12_groupPlace 35 = .ok (.goto (-31), 3) := by decide +kernel
theorem dX12_groupPlace_38 : decode cX12_groupPlace 38 = .ok (.iload_n 2, 1) := by decide +kernel
theorem dX12_groupPlace_39 : decode cX12_groupPlace 39 = .ok (.ireturn, 1) := by decide +kernel
theorem dX12_number__0 : decode cX12_number_ 0 = .ok (.aload_n 0, 1) := by decide +kernel
theorem dX12_number__1 : decode cX12_number_ 1 = .ok (.iload_n 1, 1) := by decide +kernel
theorem dX12_number__2 : decode cX12_number_ 2 = .ok (.invokevirtual 373, 3) := by decide +kernel
theorem dX12_number__5 : decode cX12_number_ 5 = .ok (.ifCond .ne 6, 3) := by decide +kernel
theorem dX12_number__8 : decode cX12_number_ 8 = .ok (.bipush (-2), 2) := by decide +kernel
theorem dX12_number__10 : decode cX12_number_ 10 = .ok (.ireturn, 1) := by decide +kernel
theorem dX12_number__11 : decode cX12_number_ 11 = .ok (.iload_n 2, 1) := by decide +kernel
theorem dX12_number__12 : decode cX12_number_ 12 = .ok (.tableswitch 81 0 5 #[40, 47, 54, 61, 67, 74], 40) := by decide +kernel
theorem dX12_number__52 : decode cX12_number_ 52 = .ok (.aload_n 0, 1) := by decide +kernel
theorem dX12_number__53 : decode cX12_number_ 53 = .ok (.getfield 68, 3) := by decide +kernel
theorem dX12_number__56 : decode cX12_number_ 56 = .ok (.iload_n 1, 1) := by decide +kernel
theorem dX12_number__57 : decode cX12_number_ 57 = .ok (.iaload, 1) := by decide +kernel
theorem dX12_number__58 : decode cX12_number_ 58 = .ok (.ireturn, 1) := by decide +kernel
theorem dX12_number__59 : decode cX12_number_ 59 = .ok (.aload_n 0, 1) := by decide +kernel
theorem dX12_number__60 : decode cX12_number_ 60 = .ok (.getfield 71, 3) := by decide +kernel
theorem dX12_number__63 : decode cX12_number_ 63 = .ok (.iload_n 1, 1) := by decide +kernel
theorem dX12_number__64 : decode cX12_number_ 64 = .ok (.iaload, 1) := by decide +kernel
theorem dX12_number__65 : decode cX12_number_ 65 = .ok (.ireturn, 1) := by decide +kernel
theorem dX12_number__66 : decode cX12_number_ 66 = .ok (.aload_n 0, 1) := by decide +kernel
theorem dX12_number__67 : decode cX12_number_ 67 = .ok (.getfield 74, 3) := by decide +kernel
theorem dX12_number__70 : decode cX12_number_ 70 = .ok (.iload_n 1, 1) := by decide +kernel
theorem dX12_number__71 : decode cX12_number_ 71 = .ok (.iaload, 1) := by decide +kernel
theorem dX12_number__72 : decode cX12_number_ 72 = .ok (.ireturn, 1) := by decide +kernel
theorem dX12_number__73 : decode cX12_number_ 73 = .ok (.aload_n 0, 1) := by decide +kernel
theorem dX12_number__74 : decode cX12_number_ 74 = .ok (.iload_n 1, 1) := by decide +kernel
theorem dX12_number__75 : decode cX12_number_ 75 = .ok (.invokevirtual 378, 3) := by decide +kernel
theorem dX12_number__78 : decode cX12_number_ 78 = .ok (.ireturn, 1) := by decide +kernel
theorem dX12_number__79 : decode cX12_number_ 79 = .ok (.aload_n 0, 1) := by decide +kernel
theorem dX12_number__80 : decode cX12_number_ 80 = .ok (.getfield 87, 3) := by decide +kernel
theorem dX12_number__83 : decode cX12_number_ 83 = .ok (.iload_n 1, 1) := by decide +kernel
theorem dX12_number__84 : decode cX12_number_ 84 = .ok (.iaload, 1) := by decide +kernel
theorem dX12_number__85 : decode cX12_number_ 85 = .ok (.ireturn, 1) := by decide +kernel
theorem dX12_number__86 : decode cX12_number_ 86 = .ok (.aload_n 0, 1) := by decide +kernel
theorem dX12_number__87 : decode cX12_number_ 87 = .ok (.getfield 90, 3) := by decide +kernel
theorem dX12_number__90 : decode cX12_number_ 90 = .ok (.iload_n 1, 1) := by decide +kernel
theorem dX12_number__91 : decode cX12_number_ 91 = .ok (.iaload, 1) := by decide +kernel
theorem dX12_number__92 : decode cX12_number_ 92 = .ok (.ireturn, 1) := by decide +kernel
theorem dX12_number__93 : decode cX12_number_ 93 = .ok (.bipush (-2), 2) := by decide +kernel
theorem dX12_number__95 : decode cX12_number_ 95 = .ok (.ireturn, 1) := by decide +kernel
theorem dX12_told_0 : decode cX12_told 0 = .ok (.aload_n 0, 1) := by decide +kernel
theorem dX12_told_1 : decode cX12_told 1 = .ok (.iload_n 1, 1) := by decide +kernel
theorem dX12_told_2 : decode cX12_told 2 = .ok (.invokevirtual 373, 3) := by decide +kernel
theorem dX12_told_5 : decode cX12_told 5 = .ok (.ifCond .eq 13, 3) := by decide +kernel
theorem dX12_told_8 : decode cX12_told 8 = .ok (.iload_n 2, 1) := by decide +kernel
theorem dX12_told_9 : decode cX12_told 9 = .ok (.i2l, 1) := by decide +kernel
theorem dX12_told_10 : decode cX12_told 10 = .ok (.lconst 0, 1) := by decide +kernel
theorem dX12_told_11 : decode cX12_told 11 = .ok (.lconst 1, 1) := by decide +kernel
theorem dX12_told_12 : decode cX12_told 12 = .ok (.invokestatic 263, 3) := by decide +kernel
theorem dX12_told_15 : decode cX12_told 15 = .ok (.ifCond .ne 7, 3) := by decide +kernel
theorem dX12_told_18 : decode cX12_told 18 = .ok (.ldc2_w 381, 3) := by decide +kernel
theorem dX12_told_21 : decode cX12_told 21 = .ok (.lreturn, 1) := by decide +kernel
theorem dX12_told_22 : decode cX12_told 22 = .ok (.aload_n 0, 1) := by decide +kernel
theorem dX12_told_23 : decode cX12_told 23 = .ok (.getfield 68, 3) := by decide +kernel
theorem dX12_told_26 : decode cX12_told 26 = .ok (.iload_n 1, 1) := by decide +kernel
theorem dX12_told_27 : decode cX12_told 27 = .ok (.iaload, 1) := by decide +kernel
theorem dX12_told_28 : decode cX12_told 28 = .ok (.ifCond .eq 30, 3) := by decide +kernel
theorem dX12_told_31 : decode cX12_told 31 = .ok (.iload_n 2, 1) := by decide +kernel
theorem dX12_told_32 : decode cX12_told 32 = .ok (.ifCond .ne 12, 3) := by decide +kernel
theorem dX12_told_35 : decode cX12_told 35 = .ok (.aload_n 0, 1) := by decide +kernel
theorem dX12_told_36 : decode cX12_told 36 = .ok (.getfield 71, 3) := by decide +kernel
theorem dX12_told_39 : decode cX12_told 39 = .ok (.iload_n 1, 1) := by decide +kernel
theorem dX12_told_40 : decode cX12_told 40 = .ok (.iaload, 1) := by decide +kernel
theorem dX12_told_41 : decode cX12_told 41 = .ok (.goto 9, 3) := by decide +kernel
theorem dX12_told_44 : decode cX12_told 44 = .ok (.aload_n 0, 1) := by decide +kernel
theorem dX12_told_45 : decode cX12_told 45 = .ok (.getfield 74, 3) := by decide +kernel
theorem dX12_told_48 : decode cX12_told 48 = .ok (.iload_n 1, 1) := by decide +kernel
theorem dX12_told_49 : decode cX12_told 49 = .ok (.iaload, 1) := by decide +kernel
theorem dX12_told_50 : decode cX12_told 50 = .ok (.iconst (-1), 1) := by decide +kernel
theorem dX12_told_51 : decode cX12_told 51 = .ok (.if_icmp .eq 7, 3) := by decide +kernel
theorem dX12_told_54 : decode cX12_told 54 = .ok (.ldc2_w 381, 3) := by decide +kernel
theorem dX12_told_57 : decode cX12_told 57 = .ok (.lreturn, 1) := by decide +kernel
theorem dX12_told_58 : decode cX12_told 58 = .ok (.iload_n 2, 1) := by decide +kernel
theorem dX12_told_59 : decode cX12_told 59 = .ok (.ifCond .ne 12, 3) := by decide +kernel
theorem dX12_told_62 : decode cX12_told 62 = .ok (.aload_n 0, 1) := by decide +kernel
theorem dX12_told_63 : decode cX12_told 63 = .ok (.getfield 77, 3) := by decide +kernel
theorem dX12_told_66 : decode cX12_told 66 = .ok (.iload_n 1, 1) := by decide +kernel
theorem dX12_told_67 : decode cX12_told 67 = .ok (.laload, 1) := by decide +kernel
theorem dX12_told_68 : decode cX12_told 68 = .ok (.goto 9, 3) := by decide +kernel
theorem dX12_told_71 : decode cX12_told 71 = .ok (.aload_n 0, 1) := by decide +kernel
theorem dX12_told_72 : decode cX12_told 72 = .ok (.getfield 81, 3) := by decide +kernel
theorem dX12_told_75 : decode cX12_told 75 = .ok (.iload_n 1, 1) := by decide +kernel
theorem dX12_told_76 : decode cX12_told 76 = .ok (.laload, 1) := by decide +kernel
theorem dX12_told_77 : decode cX12_told 77 = .ok (.lreturn, 1) := by decide +kernel
theorem dX12_rounded_0 : decode cX12_rounded 0 = .ok (.ldc2_w 383, 3) := by decide +kernel
theorem dX12_rounded_3 : decode cX12_rounded 3 = .ok (.lload_n 0, 1) := by decide +kernel
theorem dX12_rounded_4 : decode cX12_rounded 4 = .ok (.lmul, 1) := by decide +kernel
theorem dX12_rounded_5 : decode cX12_rounded 5 = .ok (.lload_n 2, 1) := by decide +kernel
theorem dX12_rounded_6 : decode cX12_rounded 6 = .ok (.ladd, 1) := by decide +kernel
theorem dX12_rounded_7 : decode cX12_rounded 7 = .ok (.ldc2_w 383, 3) := by decide +kernel
theorem dX12_rounded_10 : decode cX12_rounded 10 = .ok (.lload_n 2, 1) := by decide +kernel
theorem dX12_rounded_11 : decode cX12_rounded 11 = .ok (.lmul, 1) := by decide +kernel
theorem dX12_rounded_12 : decode cX12_rounded 12 = .ok (.invokestatic 385, 3) := by decide +kernel
theorem dX12_rounded_15 : decode cX12_rounded 15 = .ok (.lload_n 2, 1) := by decide +kernel
theorem dX12_rounded_16 : decode cX12_rounded 16 = .ok (.lmul, 1) := by decide +kernel
theorem dX12_rounded_17 : decode cX12_rounded 17 = .ok (.lreturn, 1) := by decide +kernel
theorem dX12_roundedProduct_0 : decode cX12_roundedProduct 0 = .ok (.ldc2_w 383, 3) := by decide +kernel
theorem dX12_roundedProduct_3 : decode cX12_roundedProduct 3 = .ok (.lload_n 0, 1) := by decide +kernel
theorem dX12_roundedProduct_4 : decode cX12_roundedProduct 4 = .ok (.lmul, 1) := by decide +kernel
theorem dX12_roundedProduct_5 : decode cX12_roundedProduct 5 = .ok (.lload_n 2, 1) := by decide +kernel
theorem dX12_roundedProduct_6 : decode cX12_roundedProduct 6 = .ok (.lmul, 1) := by decide +kernel
theorem dX12_roundedProduct_7 : decode cX12_roundedProduct 7 = .ok (.ldc2_w 388, 3) := by decide +kernel
theorem dX12_roundedProduct_10 : decode cX12_roundedProduct 10 = .ok (.lload 4, 2) := by decide +kernel
theorem dX12_roundedProduct_12 : decode cX12_roundedProduct 12 = .ok (.lmul, 1) := by decide +kernel
theorem dX12_roundedProduct_13 : decode cX12_roundedProduct 13 = .ok (.ladd, 1) := by decide +kernel
theorem dX12_roundedProduct_14 : decode cX12_roundedProduct 14 = .ok (.ldc2_w 390, 3) := by decide +kernel
theorem dX12_roundedProduct_17 : decode cX12_roundedProduct 17 = .ok (.lload 4, 2) := by decide +kernel
theorem dX12_roundedProduct_19 : decode cX12_roundedProduct 19 = .ok (.lmul, 1) := by decide +kernel
theorem dX12_roundedProduct_20 : decode cX12_roundedProduct 20 = .ok (.invokestatic 385, 3) := by decide +kernel
theorem dX12_roundedProduct_23 : decode cX12_roundedProduct 23 = .ok (.lload 4, 2) := by decide +kernel
theorem dX12_roundedProduct_25 : decode cX12_roundedProduct 25 = .ok (.lmul, 1) := by decide +kernel
theorem dX12_roundedProduct_26 : decode cX12_roundedProduct 26 = .ok (.lreturn, 1) := by decide +kernel
theorem dX12_two_0 : decode cX12_two 0 = .ok (.iload_n 0, 1) := by decide +kernel
theorem dX12_two_1 : decode cX12_two 1 = .ok (.tableswitch 53 1 4 #[31, 35, 39, 47], 31) := by decide +kernel
theorem dX12_two_32 : decode cX12_two 32 = .ok (.lload_n 1, 1) := by decide +kernel
theorem dX12_two_33 : decode cX12_two 33 = .ok (.lload_n 3, 1) := by decide +kernel
theorem dX12_two_34 : decode cX12_two 34 = .ok (.ladd, 1) := by decide +kernel
theorem dX12_two_35 : decode cX12_two 35 = .ok (.lreturn, 1) := by decide +kernel
theorem dX12_two_36 : decode cX12_two 36 = .ok (.lload_n 1, 1) := by decide +kernel
theorem dX12_two_37 : decode cX12_two 37 = .ok (.lload_n 3, 1) := by decide +kernel
theorem dX12_two_38 : decode cX12_two 38 = .ok (.lsub, 1) := by decide +kernel
theorem dX12_two_39 : decode cX12_two 39 = .ok (.lreturn, 1) := by decide +kernel
theorem dX12_two_40 : decode cX12_two 40 = .ok (.lload_n 1, 1) := by decide +kernel
theorem dX12_two_41 : decode cX12_two 41 = .ok (.lload_n 3, 1) := by decide +kernel
theorem dX12_two_42 : decode cX12_two 42 = .ok (.lload 5, 2) := by decide +kernel
theorem dX12_two_44 : decode cX12_two 44 = .ok (.invokestatic 392, 3) := by decide +kernel
theorem dX12_two_47 : decode cX12_two 47 = .ok (.lreturn, 1) := by decide +kernel
theorem dX12_two_48 : decode cX12_two 48 = .ok (.lload_n 1, 1) := by decide +kernel
theorem dX12_two_49 : decode cX12_two 49 = .ok (.lload_n 3, 1) := by decide +kernel
theorem dX12_two_50 : decode cX12_two 50 = .ok (.invokestatic 322, 3) := by decide +kernel
theorem dX12_two_53 : decode cX12_two 53 = .ok (.lreturn, 1) := by decide +kernel
theorem dX12_two_54 : decode cX12_two 54 = .ok (.lload_n 1, 1) := by decide +kernel
theorem dX12_two_55 : decode cX12_two 55 = .ok (.lload_n 3, 1) := by decide +kernel
theorem dX12_two_56 : decode cX12_two 56 = .ok (.invokestatic 396, 3) := by decide +kernel
theorem dX12_two_59 : decode cX12_two 59 = .ok (.lreturn, 1) := by decide +kernel
theorem dX12_lowOf_0 : decode cX12_lowOf 0 = .ok (.iload_n 2, 1) := by decide +kernel
theorem dX12_lowOf_1 : decode cX12_lowOf 1 = .ok (.ifCond .eq 12, 3) := by decide +kernel
theorem dX12_lowOf_4 : decode cX12_lowOf 4 = .ok (.aload_n 0, 1) := by decide +kernel
theorem dX12_lowOf_5 : decode cX12_lowOf 5 = .ok (.getfield 74, 3) := by decide +kernel
theorem dX12_lowOf_8 : decode cX12_lowOf 8 = .ok (.iload_n 1, 1) := by decide +kernel
theorem dX12_lowOf_9 : decode cX12_lowOf 9 = .ok (.iaload, 1) := by decide +kernel
theorem dX12_lowOf_10 : decode cX12_lowOf 10 = .ok (.goto 9, 3) := by decide +kernel
theorem dX12_lowOf_13 : decode cX12_lowOf 13 = .ok (.aload_n 0, 1) := by decide +kernel
theorem dX12_lowOf_14 : decode cX12_lowOf 14 = .ok (.getfield 71, 3) := by decide +kernel
theorem dX12_lowOf_17 : decode cX12_lowOf 17 = .ok (.iload_n 1, 1) := by decide +kernel
theorem dX12_lowOf_18 : decode cX12_lowOf 18 = .ok (.iaload, 1) := by decide +kernel
theorem dX12_lowOf_19 : decode cX12_lowOf 19 = .ok (.istore_n 3, 1) := by decide +kernel
theorem dX12_lowOf_20 : decode cX12_lowOf 20 = .ok (.iload_n 3, 1) := by decide +kernel
theorem dX12_lowOf_21 : decode cX12_lowOf 21 = .ok (.iconst (-1), 1) := by decide +kernel
theorem dX12_lowOf_22 : decode cX12_lowOf 22 = .ok (.if_icmp .ne 25, 3) := by decide +kernel
theorem dX12_lowOf_25 : decode cX12_lowOf 25 = .ok (.iload_n 2, 1) := by decide +kernel
theorem dX12_lowOf_26 : decode cX12_lowOf 26 = .ok (.ifCond .eq 12, 3) := by decide +kernel
theorem dX12_lowOf_29 : decode cX12_lowOf 29 = .ok (.aload_n 0, 1) := by decide +kernel
theorem dX12_lowOf_30 : decode cX12_lowOf 30 = .ok (.getfield 81, 3) := by decide +kernel
theorem dX12_lowOf_33 : decode cX12_lowOf 33 = .ok (.iload_n 1, 1) := by decide +kernel
theorem dX12_lowOf_34 : decode cX12_lowOf 34 = .ok (.laload, 1) := by decide +kernel
theorem dX12_lowOf_35 : decode cX12_lowOf 35 = .ok (.goto 18, 3) := by decide +kernel
theorem dX12_lowOf_38 : decode cX12_lowOf 38 = .ok (.aload_n 0, 1) := by decide +kernel
theorem dX12_lowOf_39 : decode cX12_lowOf 39 = .ok (.getfield 77, 3) := by decide +kernel
theorem dX12_lowOf_42 : decode cX12_lowOf 42 = .ok (.iload_n 1, 1) := by decide +kernel
theorem dX12_lowOf_43 : decode cX12_lowOf 43 = .ok (.laload, 1) := by decide +kernel
theorem dX12_lowOf_44 : decode cX12_lowOf 44 = .ok (.goto 9, 3) := by decide +kernel
theorem dX12_lowOf_47 : decode cX12_lowOf 47 = .ok (.aload_n 0, 1) := by decide +kernel
theorem dX12_lowOf_48 : decode cX12_lowOf 48 = .ok (.getfield 106, 3) := by decide +kernel
theorem dX12_lowOf_51 : decode cX12_lowOf 51 = .ok (.iload_n 3, 1) := by decide +kernel
theorem dX12_lowOf_52 : decode cX12_lowOf 52 = .ok (.laload, 1) := by decide +kernel
theorem dX12_lowOf_53 : decode cX12_lowOf 53 = .ok (.lreturn, 1) := by decide +kernel
theorem dX12_highOf_0 : decode cX12_highOf 0 = .ok (.iload_n 2, 1) := by decide +kernel
theorem dX12_highOf_1 : decode cX12_highOf 1 = .ok (.ifCond .eq 12, 3) := by decide +kernel
theorem dX12_highOf_4 : decode cX12_highOf 4 = .ok (.aload_n 0, 1) := by decide +kernel
theorem dX12_highOf_5 : decode cX12_highOf 5 = .ok (.getfield 74, 3) := by decide +kernel
theorem dX12_highOf_8 : decode cX12_highOf 8 = .ok (.iload_n 1, 1) := by decide +kernel
theorem dX12_highOf_9 : decode cX12_highOf 9 = .ok (.iaload, 1) := by decide +kernel
theorem dX12_highOf_10 : decode cX12_highOf 10 = .ok (.goto 9, 3) := by decide +kernel
theorem dX12_highOf_13 : decode cX12_highOf 13 = .ok (.aload_n 0, 1) := by decide +kernel
theorem dX12_highOf_14 : decode cX12_highOf 14 = .ok (.getfield 71, 3) := by decide +kernel
theorem dX12_highOf_17 : decode cX12_highOf 17 = .ok (.iload_n 1, 1) := by decide +kernel
theorem dX12_highOf_18 : decode cX12_highOf 18 = .ok (.iaload, 1) := by decide +kernel
theorem dX12_highOf_19 : decode cX12_highOf 19 = .ok (.istore_n 3, 1) := by decide +kernel
theorem dX12_highOf_20 : decode cX12_highOf 20 = .ok (.iload_n 3, 1) := by decide +kernel
theorem dX12_highOf_21 : decode cX12_highOf 21 = .ok (.iconst (-1), 1) := by decide +kernel
theorem dX12_highOf_22 : decode cX12_highOf 22 = .ok (.if_icmp .ne 25, 3) := by decide +kernel
theorem dX12_highOf_25 : decode cX12_highOf 25 = .ok (.iload_n 2, 1) := by decide +kernel
theorem dX12_highOf_26 : decode cX12_highOf 26 = .ok (.ifCond .eq 12, 3) := by decide +kernel
theorem dX12_highOf_29 : decode cX12_highOf 29 = .ok (.aload_n 0, 1) := by decide +kernel
theorem dX12_highOf_30 : decode cX12_highOf 30 = .ok (.getfield 81, 3) := by decide +kernel
theorem dX12_highOf_33 : decode cX12_highOf 33 = .ok (.iload_n 1, 1) := by decide +kernel
theorem dX12_highOf_34 : decode cX12_highOf 34 = .ok (.laload, 1) := by decide +kernel
theorem dX12_highOf_35 : decode cX12_highOf 35 = .ok (.goto 18, 3) := by decide +kernel
theorem dX12_highOf_38 : decode cX12_highOf 38 = .ok (.aload_n 0, 1) := by decide +kernel
theorem dX12_highOf_39 : decode cX12_highOf 39 = .ok (.getfield 77, 3) := by decide +kernel
theorem dX12_highOf_42 : decode cX12_highOf 42 = .ok (.iload_n 1, 1) := by decide +kernel
theorem dX12_highOf_43 : decode cX12_highOf 43 = .ok (.laload, 1) := by decide +kernel
theorem dX12_highOf_44 : decode cX12_highOf 44 = .ok (.goto 9, 3) := by decide +kernel
theorem dX12_highOf_47 : decode cX12_highOf 47 = .ok (.aload_n 0, 1) := by decide +kernel
theorem dX12_highOf_48 : decode cX12_highOf 48 = .ok (.getfield 109, 3) := by decide +kernel
theorem dX12_highOf_51 : decode cX12_highOf 51 = .ok (.iload_n 3, 1) := by decide +kernel
theorem dX12_highOf_52 : decode cX12_highOf 52 = .ok (.laload, 1) := by decide +kernel
theorem dX12_highOf_53 : decode cX12_highOf 53 = .ok (.lreturn, 1) := by decide +kernel
theorem dX12_laysRange_0 : decode cX12_laysRange 0 = .ok (.aload_n 0, 1) := by decide +kernel
theorem dX12_laysRange_1 : decode cX12_laysRange 1 = .ok (.getfield 68, 3) := by decide +kernel
theorem dX12_laysRange_4 : decode cX12_laysRange 4 = .ok (.iload_n 1, 1) := by decide +kernel
theorem dX12_laysRange_5 : decode cX12_laysRange 5 = .ok (.iaload, 1) := by decide +kernel
theorem dX12_laysRange_6 : decode cX12_laysRange 6 = .ok (.ifCond .ne 49, 3) := by decide +kernel
theorem dX12_laysRange_9 : decode cX12_laysRange 9 = .ok (.iload_n 1, 1) := by decide +kernel
theorem dX12_laysRange_10 : decode cX12_laysRange 10 = .ok (.aload_n 0, 1) := by decide +kernel
theorem dX12_laysRange_11 : decode cX12_laysRange 11 = .ok (.getfield 112, 3) := by decide +kernel
theorem dX12_laysRange_14 : decode cX12_laysRange 14 = .ok (.if_icmp .ne 10, 3) := by decide +kernel
theorem dX12_laysRange_17 : decode cX12_laysRange 17 = .ok (.aload_n 0, 1) := by decide +kernel
theorem dX12_laysRange_18 : decode cX12_laysRange 18 = .ok (.getfield 115, 3) := by decide +kernel
theorem dX12_laysRange_21 : decode cX12_laysRange 21 = .ok (.goto 4, 3) := by decide +kernel
theorem dX12_laysRange_24 : decode cX12_laysRange 24 = .ok (.lconst 0, 1) := by decide +kernel
theorem dX12_laysRange_25 : decode cX12_laysRange 25 = .ok (.lstore_n 2, 1) := by decide +kernel
theorem dX12_laysRange_26 : decode cX12_laysRange 26 = .ok (.aload_n 0, 1) := by decide +kernel
theorem dX12_laysRange_27 : decode cX12_laysRange 27 = .ok (.getfield 106, 3) := by decide +kernel
theorem dX12_laysRange_30 : decode cX12_laysRange 30 = .ok (.iload_n 1, 1) := by decide +kernel
theorem dX12_laysRange_31 : decode cX12_laysRange 31 = .ok (.aload_n 0, 1) := by decide +kernel
theorem dX12_laysRange_32 : decode cX12_laysRange 32 = .ok (.getfield 77, 3) := by decide +kernel
theorem dX12_laysRange_35 : decode cX12_laysRange 35 = .ok (.iload_n 1, 1) := by decide +kernel
theorem dX12_laysRange_36 : decode cX12_laysRange 36 = .ok (.laload, 1) := by decide +kernel
theorem dX12_laysRange_37 : decode cX12_laysRange 37 = .ok (.lload_n 2, 1) := by decide +kernel
theorem dX12_laysRange_38 : decode cX12_laysRange 38 = .ok (.lsub, 1) := by decide +kernel
theorem dX12_laysRange_39 : decode cX12_laysRange 39 = .ok (.lastore, 1) := by decide +kernel
theorem dX12_laysRange_40 : decode cX12_laysRange 40 = .ok (.aload_n 0, 1) := by decide +kernel
theorem dX12_laysRange_41 : decode cX12_laysRange 41 = .ok (.getfield 109, 3) := by decide +kernel
theorem dX12_laysRange_44 : decode cX12_laysRange 44 = .ok (.iload_n 1, 1) := by decide +kernel
theorem dX12_laysRange_45 : decode cX12_laysRange 45 = .ok (.aload_n 0, 1) := by decide +kernel
theorem dX12_laysRange_46 : decode cX12_laysRange 46 = .ok (.getfield 81, 3) := by decide +kernel
theorem dX12_laysRange_49 : decode cX12_laysRange 49 = .ok (.iload_n 1, 1) := by decide +kernel
theorem dX12_laysRange_50 : decode cX12_laysRange 50 = .ok (.laload, 1) := by decide +kernel
theorem dX12_laysRange_51 : decode cX12_laysRange 51 = .ok (.lload_n 2, 1) := by decide +kernel
theorem dX12_laysRange_52 : decode cX12_laysRange 52 = .ok (.ladd, 1) := by decide +kernel
theorem dX12_laysRange_53 : decode cX12_laysRange 53 = .ok (.lastore, 1) := by decide +kernel
theorem dX12_laysRange_54 : decode cX12_laysRange 54 = .ok (.return_, 1) := by decide +kernel
theorem dX12_laysRange_55 : decode cX12_laysRange 55 = .ok (.aload_n 0, 1) := by decide +kernel
theorem dX12_laysRange_56 : decode cX12_laysRange 56 = .ok (.iload_n 1, 1) := by decide +kernel
theorem dX12_laysRange_57 : decode cX12_laysRange 57 = .ok (.iconst 0, 1) := by decide +kernel
theorem dX12_laysRange_58 : decode cX12_laysRange 58 = .ok (.invokevirtual 399, 3) := by decide +kernel
theorem dX12_laysRange_61 : decode cX12_laysRange 61 = .ok (.lstore_n 2, 1) := by decide +kernel
theorem dX12_laysRange_62 : decode cX12_laysRange 62 = .ok (.aload_n 0, 1) := by decide +kernel
theorem dX12_laysRange_63 : decode cX12_laysRange 63 = .ok (.iload_n 1, 1) := by decide +kernel
theorem dX12_laysRange_64 : decode cX12_laysRange 64 = .ok (.iconst 0, 1) := by decide +kernel
theorem dX12_laysRange_65 : decode cX12_laysRange 65 = .ok (.invokevirtual 403, 3) := by decide +kernel
theorem dX12_laysRange_68 : decode cX12_laysRange 68 = .ok (.lstore 4, 2) := by decide +kernel
theorem dX12_laysRange_70 : decode cX12_laysRange 70 = .ok (.aload_n 0, 1) := by decide +kernel
theorem dX12_laysRange_71 : decode cX12_laysRange 71 = .ok (.iload_n 1, 1) := by decide +kernel
theorem dX12_laysRange_72 : decode cX12_laysRange 72 = .ok (.iconst 1, 1) := by decide +kernel
theorem dX12_laysRange_73 : decode cX12_laysRange 73 = .ok (.invokevirtual 399, 3) := by decide +kernel
theorem dX12_laysRange_76 : decode cX12_laysRange 76 = .ok (.lstore 6, 2) := by decide +kernel
theorem dX12_laysRange_78 : decode cX12_laysRange 78 = .ok (.aload_n 0, 1) := by decide +kernel
theorem dX12_laysRange_79 : decode cX12_laysRange 79 = .ok (.iload_n 1, 1) := by decide +kernel
theorem dX12_laysRange_80 : decode cX12_laysRange 80 = .ok (.iconst 1, 1) := by decide +kernel
theorem dX12_laysRange_81 : decode cX12_laysRange 81 = .ok (.invokevirtual 403, 3) := by decide +kernel
theorem dX12_laysRange_84 : decode cX12_laysRange 84 = .ok (.lstore 8, 2) := by decide +kernel
theorem dX12_laysRange_86 : decode cX12_laysRange 86 = .ok (.aload_n 0, 1) := by decide +kernel
theorem dX12_laysRange_87 : decode cX12_laysRange 87 = .ok (.getfield 68, 3) := by decide +kernel
theorem dX12_laysRange_90 : decode cX12_laysRange 90 = .ok (.iload_n 1, 1) := by decide +kernel
theorem dX12_laysRange_91 : decode cX12_laysRange 91 = .ok (.iaload, 1) := by decide +kernel
theorem dX12_laysRange_92 : decode cX12_laysRange 92 = .ok (.iconst 2, 1) := by decide +kernel
theorem dX12_laysRange_93 : decode cX12_laysRange 93 = .ok (.if_icmp .ne 27, 3) := by decide +kernel
theorem dX12_laysRange_96 : decode cX12_laysRange 96 = .ok (.aload_n 0, 1) := by decide +kernel
theorem dX12_laysRange_97 : decode cX12_laysRange 97 = .ok (.getfield 106, 3) := by decide +kernel
theorem dX12_laysRange_100 : decode cX12_laysRange 100 = .ok (.iload_n 1, 1) := by decide +kernel
theorem dX12_laysRange_101 : decode cX12_laysRange 101 = .ok (.lload_n 2, 1) := by decide +kernel
theorem dX12_laysRange_102 : decode cX12_laysRange 102 = .ok (.lload 8, 2) := by decide +kernel
theorem dX12_laysRange_104 : decode cX12_laysRange 104 = .ok (.lsub, 1) := by decide +kernel
theorem dX12_laysRange_105 : decode cX12_laysRange 105 = .ok (.lastore, 1) := by decide +kernel
theorem dX12_laysRange_106 : decode cX12_laysRange 106 = .ok (.aload_n 0, 1) := by decide +kernel
theorem dX12_laysRange_107 : decode cX12_laysRange 107 = .ok (.getfield 109, 3) := by decide +kernel
theorem dX12_laysRange_110 : decode cX12_laysRange 110 = .ok (.iload_n 1, 1) := by decide +kernel
theorem dX12_laysRange_111 : decode cX12_laysRange 111 = .ok (.lload 4, 2) := by decide +kernel
theorem dX12_laysRange_113 : decode cX12_laysRange 113 = .ok (.lload 6, 2) := by decide +kernel
theorem dX12_laysRange_115 : decode cX12_laysRange 115 = .ok (.lsub, 1) := by decide +kernel
theorem dX12_laysRange_116 : decode cX12_laysRange 116 = .ok (.lastore, 1) := by decide +kernel
theorem dX12_laysRange_117 : decode cX12_laysRange 117 = .ok (.goto 143, 3) := by decide +kernel
theorem dX12_laysRange_120 : decode cX12_laysRange 120 = .ok (.aload_n 0, 1) := by decide +kernel
theorem dX12_laysRange_121 : decode cX12_laysRange 121 = .ok (.getfield 68, 3) := by decide +kernel
theorem dX12_laysRange_124 : decode cX12_laysRange 124 = .ok (.iload_n 1, 1) := by decide +kernel
theorem dX12_laysRange_125 : decode cX12_laysRange 125 = .ok (.iaload, 1) := by decide +kernel
theorem dX12_laysRange_126 : decode cX12_laysRange 126 = .ok (.iconst 3, 1) := by decide +kernel
theorem dX12_laysRange_127 : decode cX12_laysRange 127 = .ok (.if_icmp .ne 94, 3) := by decide +kernel
theorem dX12_laysRange_130 : decode cX12_laysRange 130 = .ok (.iconst 3, 1) := by decide +kernel
theorem dX12_laysRange_131 : decode cX12_laysRange 131 = .ok (.lload_n 2, 1) := by decide +kernel
theorem dX12_laysRange_132 : decode cX12_laysRange 132 = .ok (.lload 6, 2) := by decide +kernel
theorem dX12_laysRange_134 : decode cX12_laysRange 134 = .ok (.lconst 1, 1) := by decide +kernel
theorem dX12_laysRange_135 : decode cX12_laysRange 135 = .ok (.invokestatic 406, 3) := by decide +kernel
theorem dX12_laysRange_138 : decode cX12_laysRange 138 = .ok (.lstore 10, 2) := by decide +kernel
theorem dX12_laysRange_140 : decode cX12_laysRange 140 = .ok (.iconst 3, 1) := by decide +kernel
theorem dX12_laysRange_141 : decode cX12_laysRange 141 = .ok (.lload_n 2, 1) := by decide +kernel
theorem dX12_laysRange_142 : decode cX12_laysRange 142 = .ok (.lload 8, 2) := by decide +kernel
theorem dX12_laysRange_144 : decode cX12_laysRange 144 = .ok (.lconst 1, 1) := by decide +kernel
theorem dX12_laysRange_145 : decode cX12_laysRange 145 = .ok (.invokestatic 406, 3) := by decide +kernel
theorem dX12_laysRange_148 : decode cX12_laysRange 148 = .ok (.lstore 12, 2) := by decide +kernel
theorem dX12_laysRange_150 : decode cX12_laysRange 150 = .ok (.iconst 3, 1) := by decide +kernel
theorem dX12_laysRange_151 : decode cX12_laysRange 151 = .ok (.lload 4, 2) := by decide +kernel
theorem dX12_laysRange_153 : decode cX12_laysRange 153 = .ok (.lload 6, 2) := by decide +kernel
theorem dX12_laysRange_155 : decode cX12_laysRange 155 = .ok (.lconst 1, 1) := by decide +kernel
theorem dX12_laysRange_156 : decode cX12_laysRange 156 = .ok (.invokestatic 406, 3) := by decide +kernel
theorem dX12_laysRange_159 : decode cX12_laysRange 159 = .ok (.lstore 14, 2) := by decide +kernel
theorem dX12_laysRange_161 : decode cX12_laysRange 161 = .ok (.iconst 3, 1) := by decide +kernel
theorem dX12_laysRange_162 : decode cX12_laysRange 162 = .ok (.lload 4, 2) := by decide +kernel
theorem dX12_laysRange_164 : decode cX12_laysRange 164 = .ok (.lload 8, 2) := by decide +kernel
theorem dX12_laysRange_166 : decode cX12_laysRange 166 = .ok (.lconst 1, 1) := by decide +kernel
theorem dX12_laysRange_167 : decode cX12_laysRange 167 = .ok (.invokestatic 406, 3) := by decide +kernel
theorem dX12_laysRange_170 : decode cX12_laysRange 170 = .ok (.lstore 16, 2) := by decide +kernel
theorem dX12_laysRange_172 : decode cX12_laysRange 172 = .ok (.aload_n 0, 1) := by decide +kernel
theorem dX12_laysRange_173 : decode cX12_laysRange 173 = .ok (.getfield 106, 3) := by decide +kernel
theorem dX12_laysRange_176 : decode cX12_laysRange 176 = .ok (.iload_n 1, 1) := by decide +kernel
theorem dX12_laysRange_177 : decode cX12_laysRange 177 = .ok (.lload 10, 2) := by decide +kernel
theorem dX12_laysRange_179 : decode cX12_laysRange 179 = .ok (.lload 12, 2) := by decide +kernel
theorem dX12_laysRange_181 : decode cX12_laysRange 181 = .ok (.invokestatic 322, 3) := by decide +kernel
theorem dX12_laysRange_184 : decode cX12_laysRange 184 = .ok (.lload 14, 2) := by decide +kernel
theorem dX12_laysRange_186 : decode cX12_laysRange 186 = .ok (.lload 16, 2) := by decide +kernel
theorem dX12_laysRange_188 : decode cX12_laysRange 188 = .ok (.invokestatic 322, 3) := by decide +kernel
theorem dX12_laysRange_191 : decode cX12_laysRange 191 = .ok (.invokestatic 322, 3) := by decide +kernel
theorem dX12_laysRange_194 : decode cX12_laysRange 194 = .ok (.lastore, 1) := by decide +kernel
theorem dX12_laysRange_195 : decode cX12_laysRange 195 = .ok (.aload_n 0, 1) := by decide +kernel
theorem dX12_laysRange_196 : decode cX12_laysRange 196 = .ok (.getfield 109, 3) := by decide +kernel
theorem dX12_laysRange_199 : decode cX12_laysRange 199 = .ok (.iload_n 1, 1) := by decide +kernel
theorem dX12_laysRange_200 : decode cX12_laysRange 200 = .ok (.lload 10, 2) := by decide +kernel
theorem dX12_laysRange_202 : decode cX12_laysRange 202 = .ok (.lload 12, 2) := by decide +kernel
theorem dX12_laysRange_204 : decode cX12_laysRange 204 = .ok (.invokestatic 396, 3) := by decide +kernel
theorem dX12_laysRange_207 : decode cX12_laysRange 207 = .ok (.lload 14, 2) := by decide +kernel
theorem dX12_laysRange_209 : decode cX12_laysRange 209 = .ok (.lload 16, 2) := by decide +kernel
theorem dX12_laysRange_211 : decode cX12_laysRange 211 = .ok (.invokestatic 396, 3) := by decide +kernel
theorem dX12_laysRange_214 : decode cX12_laysRange 214 = .ok (.invokestatic 396, 3) := by decide +kernel
theorem dX12_laysRange_217 : decode cX12_laysRange 217 = .ok (.lastore, 1) := by decide +kernel
theorem dX12_laysRange_218 : decode cX12_laysRange 218 = .ok (.goto 42, 3) := by decide +kernel
theorem dX12_laysRange_221 : decode cX12_laysRange 221 = .ok (.aload_n 0, 1) := by decide +kernel
theorem dX12_laysRange_222 : decode cX12_laysRange 222 = .ok (.getfield 106, 3) := by decide +kernel
theorem dX12_laysRange_225 : decode cX12_laysRange 225 = .ok (.iload_n 1, 1) := by decide +kernel
theorem dX12_laysRange_226 : decode cX12_laysRange 226 = .ok (.aload_n 0, 1) := by decide +kernel
theorem dX12_laysRange_227 : decode cX12_laysRange 227 = .ok (.getfield 68, 3) := by decide +kernel
theorem dX12_laysRange_230 : decode cX12_laysRange 230 = .ok (.iload_n 1, 1) := by decide +kernel
theorem dX12_laysRange_231 : decode cX12_laysRange 231 = .ok (.iaload, 1) := by decide +kernel
theorem dX12_laysRange_232 : decode cX12_laysRange 232 = .ok (.lload_n 2, 1) := by decide +kernel
theorem dX12_laysRange_233 : decode cX12_laysRange 233 = .ok (.lload 6, 2) := by decide +kernel
theorem dX12_laysRange_235 : decode cX12_laysRange 235 = .ok (.lconst 1, 1) := by decide +kernel
theorem dX12_laysRange_236 : decode cX12_laysRange 236 = .ok (.invokestatic 406, 3) := by decide +kernel
theorem dX12_laysRange_239 : decode cX12_laysRange 239 = .ok (.lastore, 1) := by decide +kernel
theorem dX12_laysRange_240 : decode cX12_laysRange 240 = .ok (.aload_n 0, 1) := by decide +kernel
theorem dX12_laysRange_241 : decode cX12_laysRange 241 = .ok (.getfield 109, 3) := by decide +kernel
theorem dX12_laysRange_244 : decode cX12_laysRange 244 = .ok (.iload_n 1, 1) := by decide +kernel
theorem dX12_laysRange_245 : decode cX12_laysRange 245 = .ok (.aload_n 0, 1) := by decide +kernel
theorem dX12_laysRange_246 : decode cX12_laysRange 246 = .ok (.getfield 68, 3) := by decide +kernel
theorem dX12_laysRange_249 : decode cX12_laysRange 249 = .ok (.iload_n 1, 1) := by decide +kernel
theorem dX12_laysRange_250 : decode cX12_laysRange 250 = .ok (.iaload, 1) := by decide +kernel
theorem dX12_laysRange_251 : decode cX12_laysRange 251 = .ok (.lload 4, 2) := by decide +kernel
theorem dX12_laysRange_253 : decode cX12_laysRange 253 = .ok (.lload 8, 2) := by decide +kernel
theorem dX12_laysRange_255 : decode cX12_laysRange 255 = .ok (.lconst 1, 1) := by decide +kernel
theorem dX12_laysRange_256 : decode cX12_laysRange 256 = .ok (.invokestatic 406, 3) := by decide +kernel
theorem dX12_laysRange_259 : decode cX12_laysRange 259 = .ok (.lastore, 1) := by decide +kernel
theorem dX12_laysRange_260 : decode cX12_laysRange 260 = .ok (.return_, 1) := by decide +kernel
theorem dX12_mostOf_0 : decode cX12_mostOf 0 = .ok (.aload_n 0, 1) := by decide +kernel
theorem dX12_mostOf_1 : decode cX12_mostOf 1 = .ok (.getfield 106, 3) := by decide +kernel
theorem dX12_mostOf_4 : decode cX12_mostOf 4 = .ok (.iload_n 1, 1) := by decide +kernel
theorem dX12_mostOf_5 : decode cX12_mostOf 5 = .ok (.laload, 1) := by decide +kernel
theorem dX12_mostOf_6 : decode cX12_mostOf 6 = .ok (.invokestatic 410, 3) := by decide +kernel
theorem dX12_mostOf_9 : decode cX12_mostOf 9 = .ok (.aload_n 0, 1) := by decide +kernel
theorem dX12_mostOf_10 : decode cX12_mostOf 10 = .ok (.getfield 109, 3) := by decide +kernel
theorem dX12_mostOf_13 : decode cX12_mostOf 13 = .ok (.iload_n 1, 1) := by decide +kernel
theorem dX12_mostOf_14 : decode cX12_mostOf 14 = .ok (.laload, 1) := by decide +kernel
theorem dX12_mostOf_15 : decode cX12_mostOf 15 = .ok (.invokestatic 410, 3) := by decide +kernel
theorem dX12_mostOf_18 : decode cX12_mostOf 18 = .ok (.invokestatic 396, 3) := by decide +kernel
theorem dX12_mostOf_21 : decode cX12_mostOf 21 = .ok (.lreturn, 1) := by decide +kernel
theorem dX12_isGreatPart_0 : decode cX12_isGreatPart 0 = .ok (.iload_n 1, 1) := by decide +kernel
theorem dX12_isGreatPart_1 : decode cX12_isGreatPart 1 = .ok (.iconst (-1), 1) := by decide +kernel
theorem dX12_isGreatPart_2 : decode cX12_isGreatPart 2 = .ok (.if_icmp .eq 16, 3) := by decide +kernel
theorem dX12_isGreatPart_5 : decode cX12_isGreatPart 5 = .ok (.aload_n 0, 1) := by decide +kernel
theorem dX12_isGreatPart_6 : decode cX12_isGreatPart 6 = .ok (.getfield 118, 3) := by decide +kernel
theorem dX12_isGreatPart_9 : decode cX12_isGreatPart 9 = .ok (.iload_n 1, 1) := by decide +kernel
theorem dX12_isGreatPart_10 : decode cX12_isGreatPart 10 = .ok (.baload, 1) := by decide +kernel
theorem dX12_isGreatPart_11 : decode cX12_isGreatPart 11 = .ok (.ifCond .eq 7, 3) := by decide +kernel
theorem dX12_isGreatPart_14 : decode cX12_isGreatPart 14 = .ok (.iconst 1, 1) := by decide +kernel
theorem dX12_isGreatPart_15 : decode cX12_isGreatPart 15 = .ok (.goto 4, 3) := by decide +kernel
theorem dX12_isGreatPart_18 : decode cX12_isGreatPart 18 = .ok (.iconst 0, 1) := by decide +kernel
theorem dX12_isGreatPart_19 : decode cX12_isGreatPart 19 = .ok (.ireturn, 1) := by decide +kernel
theorem dX12_range_0 : decode cX12_range 0 = .ok (.aload_n 0, 1) := by decide +kernel
theorem dX12_range_1 : decode cX12_range 1 = .ok (.iload_n 1, 1) := by decide +kernel
theorem dX12_range_2 : decode cX12_range 2 = .ok (.invokevirtual 373, 3) := by decide +kernel
theorem dX12_range_5 : decode cX12_range 5 = .ok (.ifCond .ne 7, 3) := by decide +kernel
theorem dX12_range_8 : decode cX12_range 8 = .ok (.ldc2_w 381, 3) := by decide +kernel
theorem dX12_range_11 : decode cX12_range 11 = .ok (.lreturn, 1) := by decide +kernel
theorem dX12_range_12 : decode cX12_range 12 = .ok (.aload_n 0, 1) := by decide +kernel
theorem dX12_range_13 : decode cX12_range 13 = .ok (.iconst (-1), 1) := by decide +kernel
theorem dX12_range_14 : decode cX12_range 14 = .ok (.putfield 112, 3) := by decide +kernel
theorem dX12_range_17 : decode cX12_range 17 = .ok (.iconst 0, 1) := by decide +kernel
theorem dX12_range_18 : decode cX12_range 18 = .ok (.istore_n 3, 1) := by decide +kernel
theorem dX12_range_19 : decode cX12_range 19 = .ok (.iload_n 3, 1) := by decide +kernel
theorem dX12_range_20 : decode cX12_range 20 = .ok (.iload_n 1, 1) := by decide +kernel
theorem dX12_range_21 : decode cX12_range 21 = .ok (.if_icmp .gt 86, 3) := by decide +kernel
theorem dX12_range_24 : decode cX12_range 24 = .ok (.aload_n 0, 1) := by decide +kernel
theorem dX12_range_25 : decode cX12_range 25 = .ok (.getfield 118, 3) := by decide +kernel
theorem dX12_range_28 : decode cX12_range 28 = .ok (.iload_n 3, 1) := by decide +kernel
theorem dX12_range_29 : decode cX12_range 29 = .ok (.aload_n 0, 1) := by decide +kernel
theorem dX12_range_30 : decode cX12_range 30 = .ok (.aload_n 0, 1) := by decide +kernel
theorem dX12_range_31 : decode cX12_range 31 = .ok (.getfield 71, 3) := by decide +kernel
theorem dX12_range_34 : decode cX12_range 34 = .ok (.iload_n 3, 1) := by decide +kernel
theorem dX12_range_35 : decode cX12_range 35 = .ok (.iaload, 1) := by decide +kernel
theorem dX12_range_36 : decode cX12_range 36 = .ok (.invokevirtual 414, 3) := by decide +kernel
theorem dX12_range_39 : decode cX12_range 39 = .ok (.ifCond .ne 16, 3) := by decide +kernel
theorem dX12_range_42 : decode cX12_range 42 = .ok (.aload_n 0, 1) := by decide +kernel
theorem dX12_range_43 : decode cX12_range 43 = .ok (.aload_n 0, 1) := by decide +kernel
theorem dX12_range_44 : decode cX12_range 44 = .ok (.getfield 74, 3) := by decide +kernel
theorem dX12_range_47 : decode cX12_range 47 = .ok (.iload_n 3, 1) := by decide +kernel
theorem dX12_range_48 : decode cX12_range 48 = .ok (.iaload, 1) := by decide +kernel
theorem dX12_range_49 : decode cX12_range 49 = .ok (.invokevirtual 414, 3) := by decide +kernel
theorem dX12_range_52 : decode cX12_range 52 = .ok (.ifCond .eq 7, 3) := by decide +kernel
theorem dX12_range_55 : decode cX12_range 55 = .ok (.iconst 1, 1) := by decide +kernel
theorem dX12_range_56 : decode cX12_range 56 = .ok (.goto 4, 3) := by decide +kernel
theorem dX12_range_59 : decode cX12_range 59 = .ok (.iconst 0, 1) := by decide +kernel
theorem dX12_range_60 : decode cX12_range 60 = .ok (.bastore, 1) := by decide +kernel
theorem dX12_range_61 : decode cX12_range 61 = .ok (.aload_n 0, 1) := by decide +kernel
theorem dX12_range_62 : decode cX12_range 62 = .ok (.getfield 118, 3) := by decide +kernel
theorem dX12_range_65 : decode cX12_range 65 = .ok (.iload_n 3, 1) := by decide +kernel
theorem dX12_range_66 : decode cX12_range 66 = .ok (.baload, 1) := by decide +kernel
theorem dX12_range_67 : decode cX12_range 67 = .ok (.ifCond .eq 6, 3) := by decide +kernel
theorem dX12_range_70 : decode cX12_range 70 = .ok (.goto 31, 3) := by decide +kernel
theorem dX12_range_73 : decode cX12_range 73 = .ok (.aload_n 0, 1) := by decide +kernel
theorem dX12_range_74 : decode cX12_range 74 = .ok (.iload_n 3, 1) := by decide +kernel
theorem dX12_range_75 : decode cX12_range 75 = .ok (.invokevirtual 417, 3) := by decide +kernel
theorem dX12_range_78 : decode cX12_range 78 = .ok (.aload_n 0, 1) := by decide +kernel
theorem dX12_range_79 : decode cX12_range 79 = .ok (.getfield 118, 3) := by decide +kernel
theorem dX12_range_82 : decode cX12_range 82 = .ok (.iload_n 3, 1) := by decide +kernel
theorem dX12_range_83 : decode cX12_range 83 = .ok (.aload_n 0, 1) := by decide +kernel
theorem dX12_range_84 : decode cX12_range 84 = .ok (.iload_n 3, 1) := by decide +kernel
theorem dX12_range_85 : decode cX12_range 85 = .ok (.invokevirtual 420, 3) := by decide +kernel
theorem dX12_range_88 : decode cX12_range 88 = .ok (.ldc2_w 294, 3) := by decide +kernel
theorem dX12_range_91 : decode cX12_range 91 = .ok (.lcmp, 1) := by decide +kernel
theorem dX12_range_92 : decode cX12_range 92 = .ok (.ifCond .le 7, 3) := by decide +kernel
theorem dX12_range_95 : decode cX12_range 95 = .ok (.iconst 1, 1) := by decide +kernel
theorem dX12_range_96 : decode cX12_range 96 = .ok (.goto 4, 3) := by decide +kernel
theorem dX12_range_99 : decode cX12_range 99 = .ok (.iconst 0, 1) := by decide +kernel
theorem dX12_range_100 : decode cX12_range 100 = .ok (.bastore, 1) := by decide +kernel
theorem dX12_range_101 : decode cX12_range 101 = .ok (.iinc 3 1, 3) := by decide +kernel
theorem dX12_range_104 : decode cX12_range 104 = .ok (.goto (-85), 3) := by decide +kernel
theorem dX12_range_107 : decode cX12_range 107 = .ok (.aload_n 0, 1) := by decide +kernel
theorem dX12_range_108 : decode cX12_range 108 = .ok (.getfield 118, 3) := by decide +kernel
theorem dX12_range_111 : decode cX12_range 111 = .ok (.iload_n 1, 1) := by decide +kernel
theorem dX12_range_112 : decode cX12_range 112 = .ok (.baload, 1) := by decide +kernel
theorem dX12_range_113 : decode cX12_range 113 = .ok (.ifCond .eq 9, 3) := by decide +kernel
theorem dX12_range_116 : decode cX12_range 116 = .ok (.ldc2_w 381, 3) := by decide +kernel
theorem dX12_range_119 : decode cX12_range 119 = .ok (.goto 22, 3) := by decide +kernel
theorem dX12_range_122 : decode cX12_range 122 = .ok (.iload_n 2, 1) := by decide +kernel
theorem dX12_range_123 : decode cX12_range 123 = .ok (.ifCond .eq 12, 3) := by decide +kernel
theorem dX12_range_126 : decode cX12_range 126 = .ok (.aload_n 0, 1) := by decide +kernel
theorem dX12_range_127 : decode cX12_range 127 = .ok (.getfield 109, 3) := by decide +kernel
theorem dX12_range_130 : decode cX12_range 130 = .ok (.iload_n 1, 1) := by decide +kernel
theorem dX12_range_131 : decode cX12_range 131 = .ok (.laload, 1) := by decide +kernel
theorem dX12_range_132 : decode cX12_range 132 = .ok (.goto 9, 3) := by decide +kernel
theorem dX12_range_135 : decode cX12_range 135 = .ok (.aload_n 0, 1) := by decide +kernel
theorem dX12_range_136 : decode cX12_range 136 = .ok (.getfield 106, 3) := by decide +kernel
theorem dX12_range_139 : decode cX12_range 139 = .ok (.iload_n 1, 1) := by decide +kernel
theorem dX12_range_140 : decode cX12_range 140 = .ok (.laload, 1) := by decide +kernel
theorem dX12_range_141 : decode cX12_range 141 = .ok (.lreturn, 1) := by decide +kernel
theorem dX12_uses_0 : decode cX12_uses 0 = .ok (.aload_n 0, 1) := by decide +kernel
theorem dX12_uses_1 : decode cX12_uses 1 = .ok (.iload_n 1, 1) := by decide +kernel
theorem dX12_uses_2 : decode cX12_uses 2 = .ok (.invokevirtual 373, 3) := by decide +kernel
theorem dX12_uses_5 : decode cX12_uses 5 = .ok (.ifCond .ne 5, 3) := by decide +kernel
theorem dX12_uses_8 : decode cX12_uses 8 = .ok (.iconst (-1), 1) := by decide +kernel
theorem dX12_uses_9 : decode cX12_uses 9 = .ok (.ireturn, 1) := by decide +kernel
theorem dX12_uses_10 : decode cX12_uses 10 = .ok (.iconst 1, 1) := by decide +kernel
theorem dX12_uses_11 : decode cX12_uses 11 = .ok (.iload_n 1, 1) := by decide +kernel
theorem dX12_uses_12 : decode cX12_uses 12 = .ok (.ishl, 1) := by decide +kernel
theorem dX12_uses_13 : decode cX12_uses 13 = .ok (.istore_n 2, 1) := by decide +kernel
theorem dX12_uses_14 : decode cX12_uses 14 = .ok (.iload_n 1, 1) := by decide +kernel
theorem dX12_uses_15 : decode cX12_uses 15 = .ok (.iconst 1, 1) := by decide +kernel
theorem dX12_uses_16 : decode cX12_uses 16 = .ok (.iadd, 1) := by decide +kernel
theorem dX12_uses_17 : decode cX12_uses 17 = .ok (.istore_n 3, 1) := by decide +kernel
theorem dX12_uses_18 : decode cX12_uses 18 = .ok (.iload_n 3, 1) := by decide +kernel
theorem dX12_uses_19 : decode cX12_uses 19 = .ok (.aload_n 0, 1) := by decide +kernel
theorem dX12_uses_20 : decode cX12_uses 20 = .ok (.getfield 62, 3) := by decide +kernel
theorem dX12_uses_23 : decode cX12_uses 23 = .ok (.iconst 0, 1) := by decide +kernel
