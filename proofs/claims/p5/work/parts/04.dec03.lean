theorem dX10_init_57 : decode cX10_init 57 = .ok (.goto 5, 3) := by decide +kernel
theorem dX10_init_60 : decode cX10_init 60 = .ok (.bipush 32, 2) := by decide +kernel
theorem dX10_init_62 : decode cX10_init 62 = .ok (.istore 4, 2) := by decide +kernel
theorem dX10_init_64 : decode cX10_init 64 = .ok (.aload_n 0, 1) := by decide +kernel
theorem dX10_init_65 : decode cX10_init 65 = .ok (.getfield 11, 3) := by decide +kernel
theorem dX10_init_68 : decode cX10_init 68 = .ok (.iload_n 1, 1) := by decide +kernel
theorem dX10_init_69 : decode cX10_init 69 = .ok (.aload_n 0, 1) := by decide +kernel
theorem dX10_init_70 : decode cX10_init 70 = .ok (.getfield 11, 3) := by decide +kernel
theorem dX10_init_73 : decode cX10_init 73 = .ok (.iload_n 1, 1) := by decide +kernel
theorem dX10_init_74 : decode cX10_init 74 = .ok (.iaload, 1) := by decide +kernel
theorem dX10_init_75 : decode cX10_init 75 = .ok (.iconst 5, 1) := by decide +kernel
theorem dX10_init_76 : decode cX10_init 76 = .ok (.ishl, 1) := by decide +kernel
theorem dX10_init_77 : decode cX10_init 77 = .ok (.iload 4, 2) := by decide +kernel
theorem dX10_init_79 : decode cX10_init 79 = .ok (.bipush 32, 2) := by decide +kernel
theorem dX10_init_81 : decode cX10_init 81 = .ok (.if_icmp .ne 7, 3) := by decide +kernel
theorem dX10_init_84 : decode cX10_init 84 = .ok (.iconst 0, 1) := by decide +kernel
theorem dX10_init_85 : decode cX10_init 85 = .ok (.goto 10, 3) := by decide +kernel
theorem dX10_init_88 : decode cX10_init 88 = .ok (.iload 4, 2) := by decide +kernel
theorem dX10_init_90 : decode cX10_init 90 = .ok (.bipush 97, 2) := by decide +kernel
theorem dX10_init_92 : decode cX10_init 92 = .ok (.isub, 1) := by decide +kernel
theorem dX10_init_93 : decode cX10_init 93 = .ok (.iconst 1, 1) := by decide +kernel
theorem dX10_init_94 : decode cX10_init 94 = .ok (.iadd, 1) := by decide +kernel
theorem dX10_init_95 : decode cX10_init 95 = .ok (.ior, 1) := by decide +kernel
theorem dX10_init_96 : decode cX10_init 96 = .ok (.iastore, 1) := by decide +kernel
theorem dX10_init_97 : decode cX10_init 97 = .ok (.iinc 2 1, 3) := by decide +kernel
theorem dX10_init_100 : decode cX10_init 100 = .ok (.goto (-71), 3) := by decide +kernel
theorem dX10_init_103 : decode cX10_init 103 = .ok (.iinc 1 1, 3) := by decide +kernel
theorem dX10_init_106 : decode cX10_init 106 = .ok (.goto (-85), 3) := by decide +kernel
theorem dX10_init_109 : decode cX10_init 109 = .ok (.return_, 1) := by decide +kernel
theorem dX10_open_0 : decode cX10_open 0 = .ok (.aload_n 0, 1) := by decide +kernel
theorem dX10_open_1 : decode cX10_open 1 = .ok (.aload_n 1, 1) := by decide +kernel
theorem dX10_open_2 : decode cX10_open 2 = .ok (.putfield 15, 3) := by decide +kernel
theorem dX10_open_5 : decode cX10_open 5 = .ok (.aload_n 0, 1) := by decide +kernel
theorem dX10_open_6 : decode cX10_open 6 = .ok (.iconst 0, 1) := by decide +kernel
theorem dX10_open_7 : decode cX10_open 7 = .ok (.iload_n 2, 1) := by decide +kernel
theorem dX10_open_8 : decode cX10_open 8 = .ok (.aload_n 1, 1) := by decide +kernel
theorem dX10_open_9 : decode cX10_open 9 = .ok (.arraylength, 1) := by decide +kernel
theorem dX10_open_10 : decode cX10_open 10 = .ok (.invokestatic 31, 3) := by decide +kernel
theorem dX10_open_13 : decode cX10_open 13 = .ok (.invokestatic 37, 3) := by decide +kernel
theorem dX10_open_16 : decode cX10_open 16 = .ok (.putfield 40, 3) := by decide +kernel
theorem dX10_open_19 : decode cX10_open 19 = .ok (.aload_n 0, 1) := by decide +kernel
theorem dX10_open_20 : decode cX10_open 20 = .ok (.iconst 0, 1) := by decide +kernel
theorem dX10_open_21 : decode cX10_open 21 = .ok (.putfield 43, 3) := by decide +kernel
theorem dX10_open_24 : decode cX10_open 24 = .ok (.aload_n 0, 1) := by decide +kernel
theorem dX10_open_25 : decode cX10_open 25 = .ok (.iconst 0, 1) := by decide +kernel
theorem dX10_open_26 : decode cX10_open 26 = .ok (.putfield 46, 3) := by decide +kernel
theorem dX10_open_29 : decode cX10_open 29 = .ok (.aload_n 0, 1) := by decide +kernel
theorem dX10_open_30 : decode cX10_open 30 = .ok (.invokevirtual 49, 3) := by decide +kernel
theorem dX10_open_33 : decode cX10_open 33 = .ok (.return_, 1) := by decide +kernel
theorem dX10_advance_0 : decode cX10_advance 0 = .ok (.aload_n 0, 1) := by decide +kernel
theorem dX10_advance_1 : decode cX10_advance 1 = .ok (.getfield 43, 3) := by decide +kernel
theorem dX10_advance_4 : decode cX10_advance 4 = .ok (.istore_n 1, 1) := by decide +kernel
theorem dX10_advance_5 : decode cX10_advance 5 = .ok (.aload_n 0, 1) := by decide +kernel
theorem dX10_advance_6 : decode cX10_advance 6 = .ok (.getfield 46, 3) := by decide +kernel
theorem dX10_advance_9 : decode cX10_advance 9 = .ok (.iconst 1, 1) := by decide +kernel
theorem dX10_advance_10 : decode cX10_advance 10 = .ok (.if_icmp .eq 11, 3) := by decide +kernel
theorem dX10_advance_13 : decode cX10_advance 13 = .ok (.aload_n 0, 1) := by decide +kernel
theorem dX10_advance_14 : decode cX10_advance 14 = .ok (.getfield 46, 3) := by decide +kernel
theorem dX10_advance_17 : decode cX10_advance 17 = .ok (.iconst 2, 1) := by decide +kernel
theorem dX10_advance_18 : decode cX10_advance 18 = .ok (.if_icmp .ne 7, 3) := by decide +kernel
theorem dX10_advance_21 : decode cX10_advance 21 = .ok (.iconst 1, 1) := by decide +kernel
theorem dX10_advance_22 : decode cX10_advance 22 = .ok (.goto 4, 3) := by decide +kernel
theorem dX10_advance_25 : decode cX10_advance 25 = .ok (.iconst 0, 1) := by decide +kernel
theorem dX10_advance_26 : decode cX10_advance 26 = .ok (.istore_n 2, 1) := by decide +kernel
theorem dX10_advance_27 : decode cX10_advance 27 = .ok (.aload_n 0, 1) := by decide +kernel
theorem dX10_advance_28 : decode cX10_advance 28 = .ok (.getfield 43, 3) := by decide +kernel
theorem dX10_advance_31 : decode cX10_advance 31 = .ok (.aload_n 0, 1) := by decide +kernel
theorem dX10_advance_32 : decode cX10_advance 32 = .ok (.getfield 40, 3) := by decide +kernel
theorem dX10_advance_35 : decode cX10_advance 35 = .ok (.if_icmp .ge 32, 3) := by decide +kernel
theorem dX10_advance_38 : decode cX10_advance 38 = .ok (.aload_n 0, 1) := by decide +kernel
theorem dX10_advance_39 : decode cX10_advance 39 = .ok (.getfield 15, 3) := by decide +kernel
theorem dX10_advance_42 : decode cX10_advance 42 = .ok (.aload_n 0, 1) := by decide +kernel
theorem dX10_advance_43 : decode cX10_advance 43 = .ok (.getfield 43, 3) := by decide +kernel
theorem dX10_advance_46 : decode cX10_advance 46 = .ok (.baload, 1) := by decide +kernel
theorem dX10_advance_47 : decode cX10_advance 47 = .ok (.invokestatic 52, 3) := by decide +kernel
theorem dX10_advance_50 : decode cX10_advance 50 = .ok (.iconst 5, 1) := by decide +kernel
theorem dX10_advance_51 : decode cX10_advance 51 = .ok (.if_icmp .ne 16, 3) := by decide +kernel
theorem dX10_advance_54 : decode cX10_advance 54 = .ok (.aload_n 0, 1) := by decide +kernel
theorem dX10_advance_55 : decode cX10_advance 55 = .ok (.dup, 1) := by decide +kernel
theorem dX10_advance_56 : decode cX10_advance 56 = .ok (.getfield 43, 3) := by decide +kernel
theorem dX10_advance_59 : decode cX10_advance 59 = .ok (.iconst 1, 1) := by decide +kernel
theorem dX10_advance_60 : decode cX10_advance 60 = .ok (.iadd, 1) := by decide +kernel
theorem dX10_advance_61 : decode cX10_advance 61 = .ok (.putfield 43, 3) := by decide +kernel
theorem dX10_advance_64 : decode cX10_advance 64 = .ok (.goto (-37), 3) := by decide +kernel
theorem dX10_advance_67 : decode cX10_advance 67 = .ok (.aload_n 0, 1) := by decide +kernel
theorem dX10_advance_68 : decode cX10_advance 68 = .ok (.aload_n 0, 1) := by decide +kernel
theorem dX10_advance_69 : decode cX10_advance 69 = .ok (.getfield 43, 3) := by decide +kernel
theorem dX10_advance_72 : decode cX10_advance 72 = .ok (.putfield 56, 3) := by decide +kernel
theorem dX10_advance_75 : decode cX10_advance 75 = .ok (.aload_n 0, 1) := by decide +kernel
theorem dX10_advance_76 : decode cX10_advance 76 = .ok (.aload_n 0, 1) := by decide +kernel
theorem dX10_advance_77 : decode cX10_advance 77 = .ok (.getfield 43, 3) := by decide +kernel
theorem dX10_advance_80 : decode cX10_advance 80 = .ok (.aload_n 0, 1) := by decide +kernel
theorem dX10_advance_81 : decode cX10_advance 81 = .ok (.getfield 40, 3) := by decide +kernel
theorem dX10_advance_84 : decode cX10_advance 84 = .ok (.if_icmp .ge 18, 3) := by decide +kernel
theorem dX10_advance_87 : decode cX10_advance 87 = .ok (.aload_n 0, 1) := by decide +kernel
theorem dX10_advance_88 : decode cX10_advance 88 = .ok (.getfield 15, 3) := by decide +kernel
theorem dX10_advance_91 : decode cX10_advance 91 = .ok (.aload_n 0, 1) := by decide +kernel
theorem dX10_advance_92 : decode cX10_advance 92 = .ok (.getfield 43, 3) := by decide +kernel
theorem dX10_advance_95 : decode cX10_advance 95 = .ok (.baload, 1) := by decide +kernel
theorem dX10_advance_96 : decode cX10_advance 96 = .ok (.invokestatic 52, 3) := by decide +kernel
theorem dX10_advance_99 : decode cX10_advance 99 = .ok (.goto 4, 3) := by decide +kernel
theorem dX10_advance_102 : decode cX10_advance 102 = .ok (.iconst 0, 1) := by decide +kernel
theorem dX10_advance_103 : decode cX10_advance 103 = .ok (.putfield 46, 3) := by decide +kernel
theorem dX10_advance_106 : decode cX10_advance 106 = .ok (.aload_n 0, 1) := by decide +kernel
theorem dX10_advance_107 : decode cX10_advance 107 = .ok (.iconst 0, 1) := by decide +kernel
theorem dX10_advance_108 : decode cX10_advance 108 = .ok (.putfield 59, 3) := by decide +kernel
theorem dX10_advance_111 : decode cX10_advance 111 = .ok (.iconst 0, 1) := by decide +kernel
theorem dX10_advance_112 : decode cX10_advance 112 = .ok (.istore_n 3, 1) := by decide +kernel
theorem dX10_advance_113 : decode cX10_advance 113 = .ok (.aload_n 0, 1) := by decide +kernel
theorem dX10_advance_114 : decode cX10_advance 114 = .ok (.getfield 43, 3) := by decide +kernel
theorem dX10_advance_117 : decode cX10_advance 117 = .ok (.aload_n 0, 1) := by decide +kernel
theorem dX10_advance_118 : decode cX10_advance 118 = .ok (.getfield 40, 3) := by decide +kernel
theorem dX10_advance_121 : decode cX10_advance 121 = .ok (.if_icmp .ge 64, 3) := by decide +kernel
theorem dX10_advance_124 : decode cX10_advance 124 = .ok (.aload_n 0, 1) := by decide +kernel
theorem dX10_advance_125 : decode cX10_advance 125 = .ok (.getfield 15, 3) := by decide +kernel
theorem dX10_advance_128 : decode cX10_advance 128 = .ok (.aload_n 0, 1) := by decide +kernel
theorem dX10_advance_129 : decode cX10_advance 129 = .ok (.getfield 43, 3) := by decide +kernel
theorem dX10_advance_132 : decode cX10_advance 132 = .ok (.baload, 1) := by decide +kernel
theorem dX10_advance_133 : decode cX10_advance 133 = .ok (.invokestatic 52, 3) := by decide +kernel
theorem dX10_advance_136 : decode cX10_advance 136 = .ok (.aload_n 0, 1) := by decide +kernel
theorem dX10_advance_137 : decode cX10_advance 137 = .ok (.getfield 46, 3) := by decide +kernel
theorem dX10_advance_140 : decode cX10_advance 140 = .ok (.if_icmp .ne 45, 3) := by decide +kernel
theorem dX10_advance_143 : decode cX10_advance 143 = .ok (.aload_n 0, 1) := by decide +kernel
theorem dX10_advance_144 : decode cX10_advance 144 = .ok (.getfield 46, 3) := by decide +kernel
theorem dX10_advance_147 : decode cX10_advance 147 = .ok (.iconst 3, 1) := by decide +kernel
theorem dX10_advance_148 : decode cX10_advance 148 = .ok (.if_icmp .ne 7, 3) := by decide +kernel
theorem dX10_advance_151 : decode cX10_advance 151 = .ok (.iload_n 3, 1) := by decide +kernel
theorem dX10_advance_152 : decode cX10_advance 152 = .ok (.ifCond .ne 33, 3) := by decide +kernel
theorem dX10_advance_155 : decode cX10_advance 155 = .ok (.iinc 3 1, 3) := by decide +kernel
theorem dX10_advance_158 : decode cX10_advance 158 = .ok (.aload_n 0, 1) := by decide +kernel
theorem dX10_advance_159 : decode cX10_advance 159 = .ok (.aload_n 0, 1) := by decide +kernel
theorem dX10_advance_160 : decode cX10_advance 160 = .ok (.getfield 15, 3) := by decide +kernel
theorem dX10_advance_163 : decode cX10_advance 163 = .ok (.aload_n 0, 1) := by decide +kernel
theorem dX10_advance_164 : decode cX10_advance 164 = .ok (.getfield 43, 3) := by decide +kernel
theorem dX10_advance_167 : decode cX10_advance 167 = .ok (.baload, 1) := by decide +kernel
theorem dX10_advance_168 : decode cX10_advance 168 = .ok (.iload_n 3, 1) := by decide +kernel
theorem dX10_advance_169 : decode cX10_advance 169 = .ok (.invokevirtual 62, 3) := by decide +kernel
theorem dX10_advance_172 : decode cX10_advance 172 = .ok (.aload_n 0, 1) := by decide +kernel
theorem dX10_advance_173 : decode cX10_advance 173 = .ok (.dup, 1) := by decide +kernel
theorem dX10_advance_174 : decode cX10_advance 174 = .ok (.getfield 43, 3) := by decide +kernel
theorem dX10_advance_177 : decode cX10_advance 177 = .ok (.iconst 1, 1) := by decide +kernel
theorem dX10_advance_178 : decode cX10_advance 178 = .ok (.iadd, 1) := by decide +kernel
theorem dX10_advance_179 : decode cX10_advance 179 = .ok (.putfield 43, 3) := by decide +kernel
theorem dX10_advance_182 : decode cX10_advance 182 = .ok (.goto (-69), 3) := by decide +kernel
theorem dX10_advance_185 : decode cX10_advance 185 = .ok (.iload_n 2, 1) := by decide +kernel
theorem dX10_advance_186 : decode cX10_advance 186 = .ok (.ifCond .eq 31, 3) := by decide +kernel
theorem dX10_advance_189 : decode cX10_advance 189 = .ok (.aload_n 0, 1) := by decide +kernel
theorem dX10_advance_190 : decode cX10_advance 190 = .ok (.getfield 56, 3) := by decide +kernel
theorem dX10_advance_193 : decode cX10_advance 193 = .ok (.iload_n 1, 1) := by decide +kernel
theorem dX10_advance_194 : decode cX10_advance 194 = .ok (.if_icmp .ne 23, 3) := by decide +kernel
theorem dX10_advance_197 : decode cX10_advance 197 = .ok (.aload_n 0, 1) := by decide +kernel
theorem dX10_advance_198 : decode cX10_advance 198 = .ok (.getfield 46, 3) := by decide +kernel
theorem dX10_advance_201 : decode cX10_advance 201 = .ok (.iconst 1, 1) := by decide +kernel
theorem dX10_advance_202 : decode cX10_advance 202 = .ok (.if_icmp .eq 11, 3) := by decide +kernel
theorem dX10_advance_205 : decode cX10_advance 205 = .ok (.aload_n 0, 1) := by decide +kernel
theorem dX10_advance_206 : decode cX10_advance 206 = .ok (.getfield 46, 3) := by decide +kernel
theorem dX10_advance_209 : decode cX10_advance 209 = .ok (.iconst 2, 1) := by decide +kernel
theorem dX10_advance_210 : decode cX10_advance 210 = .ok (.if_icmp .ne 7, 3) := by decide +kernel
theorem dX10_advance_213 : decode cX10_advance 213 = .ok (.iconst 1, 1) := by decide +kernel
theorem dX10_advance_214 : decode cX10_advance 214 = .ok (.goto 4, 3) := by decide +kernel
theorem dX10_advance_217 : decode cX10_advance 217 = .ok (.iconst 0, 1) := by decide +kernel
theorem dX10_advance_218 : decode cX10_advance 218 = .ok (.istore 4, 2) := by decide +kernel
theorem dX10_advance_220 : decode cX10_advance 220 = .ok (.iload 4, 2) := by decide +kernel
theorem dX10_advance_222 : decode cX10_advance 222 = .ok (.ifCond .ne 31, 3) := by decide +kernel
theorem dX10_advance_225 : decode cX10_advance 225 = .ok (.aload_n 0, 1) := by decide +kernel
theorem dX10_advance_226 : decode cX10_advance 226 = .ok (.getfield 46, 3) := by decide +kernel
theorem dX10_advance_229 : decode cX10_advance 229 = .ok (.iconst 1, 1) := by decide +kernel
theorem dX10_advance_230 : decode cX10_advance 230 = .ok (.if_icmp .ne 9, 3) := by decide +kernel
theorem dX10_advance_233 : decode cX10_advance 233 = .ok (.iload_n 3, 1) := by decide +kernel
theorem dX10_advance_234 : decode cX10_advance 234 = .ok (.bipush 6, 2) := by decide +kernel
theorem dX10_advance_236 : decode cX10_advance 236 = .ok (.if_icmp .gt 17, 3) := by decide +kernel
theorem dX10_advance_239 : decode cX10_advance 239 = .ok (.aload_n 0, 1) := by decide +kernel
theorem dX10_advance_240 : decode cX10_advance 240 = .ok (.getfield 46, 3) := by decide +kernel
theorem dX10_advance_243 : decode cX10_advance 243 = .ok (.iconst 2, 1) := by decide +kernel
theorem dX10_advance_244 : decode cX10_advance 244 = .ok (.if_icmp .ne 14, 3) := by decide +kernel
theorem dX10_advance_247 : decode cX10_advance 247 = .ok (.iload_n 3, 1) := by decide +kernel
theorem dX10_advance_248 : decode cX10_advance 248 = .ok (.bipush 8, 2) := by decide +kernel
theorem dX10_advance_250 : decode cX10_advance 250 = .ok (.if_icmp .le 8, 3) := by decide +kernel
theorem dX10_advance_253 : decode cX10_advance 253 = .ok (.aload_n 0, 1) := by decide +kernel
theorem dX10_advance_254 : decode cX10_advance 254 = .ok (.iconst 4, 1) := by decide +kernel
theorem dX10_advance_255 : decode cX10_advance 255 = .ok (.putfield 46, 3) := by decide +kernel
theorem dX10_advance_258 : decode cX10_advance 258 = .ok (.aload_n 0, 1) := by decide +kernel
theorem dX10_advance_259 : decode cX10_advance 259 = .ok (.aload_n 0, 1) := by decide +kernel
theorem dX10_advance_260 : decode cX10_advance 260 = .ok (.getfield 46, 3) := by decide +kernel
theorem dX10_advance_263 : decode cX10_advance 263 = .ok (.iconst 1, 1) := by decide +kernel
theorem dX10_advance_264 : decode cX10_advance 264 = .ok (.if_icmp .ne 14, 3) := by decide +kernel
theorem dX10_advance_267 : decode cX10_advance 267 = .ok (.aload_n 0, 1) := by decide +kernel
theorem dX10_advance_268 : decode cX10_advance 268 = .ok (.aload_n 0, 1) := by decide +kernel
theorem dX10_advance_269 : decode cX10_advance 269 = .ok (.getfield 59, 3) := by decide +kernel
theorem dX10_advance_272 : decode cX10_advance 272 = .ok (.invokevirtual 66, 3) := by decide +kernel
theorem dX10_advance_275 : decode cX10_advance 275 = .ok (.goto 4, 3) := by decide +kernel
theorem dX10_advance_278 : decode cX10_advance 278 = .ok (.iconst (-1), 1) := by decide +kernel
theorem dX10_advance_279 : decode cX10_advance 279 = .ok (.putfield 70, 3) := by decide +kernel
theorem dX10_advance_282 : decode cX10_advance 282 = .ok (.return_, 1) := by decide +kernel
theorem dX10_addByte_0 : decode cX10_addByte 0 = .ok (.aload_n 0, 1) := by decide +kernel
theorem dX10_addByte_1 : decode cX10_addByte 1 = .ok (.getfield 46, 3) := by decide +kernel
theorem dX10_addByte_4 : decode cX10_addByte 4 = .ok (.iconst 3, 1) := by decide +kernel
theorem dX10_addByte_5 : decode cX10_addByte 5 = .ok (.if_icmp .ne 11, 3) := by decide +kernel
theorem dX10_addByte_8 : decode cX10_addByte 8 = .ok (.aload_n 0, 1) := by decide +kernel
theorem dX10_addByte_9 : decode cX10_addByte 9 = .ok (.iload_n 1, 1) := by decide +kernel
theorem dX10_addByte_10 : decode cX10_addByte 10 = .ok (.putfield 59, 3) := by decide +kernel
theorem dX10_addByte_13 : decode cX10_addByte 13 = .ok (.goto 72, 3) := by decide +kernel
theorem dX10_addByte_16 : decode cX10_addByte 16 = .ok (.aload_n 0, 1) := by decide +kernel
theorem dX10_addByte_17 : decode cX10_addByte 17 = .ok (.getfield 46, 3) := by decide +kernel
theorem dX10_addByte_20 : decode cX10_addByte 20 = .ok (.iconst 1, 1) := by decide +kernel
theorem dX10_addByte_21 : decode cX10_addByte 21 = .ok (.if_icmp .ne 34, 3) := by decide +kernel
theorem dX10_addByte_24 : decode cX10_addByte 24 = .ok (.iload_n 2, 1) := by decide +kernel
theorem dX10_addByte_25 : decode cX10_addByte 25 = .ok (.bipush 6, 2) := by decide +kernel
theorem dX10_addByte_27 : decode cX10_addByte 27 = .ok (.if_icmp .gt 28, 3) := by decide +kernel
theorem dX10_addByte_30 : decode cX10_addByte 30 = .ok (.aload_n 0, 1) := by decide +kernel
theorem dX10_addByte_31 : decode cX10_addByte 31 = .ok (.dup, 1) := by decide +kernel
theorem dX10_addByte_32 : decode cX10_addByte 32 = .ok (.getfield 59, 3) := by decide +kernel
theorem dX10_addByte_35 : decode cX10_addByte 35 = .ok (.iload_n 1, 1) := by decide +kernel
theorem dX10_addByte_36 : decode cX10_addByte 36 = .ok (.bipush 97, 2) := by decide +kernel
theorem dX10_addByte_38 : decode cX10_addByte 38 = .ok (.isub, 1) := by decide +kernel
theorem dX10_addByte_39 : decode cX10_addByte 39 = .ok (.iconst 1, 1) := by decide +kernel
theorem dX10_addByte_40 : decode cX10_addByte 40 = .ok (.iadd, 1) := by decide +kernel
theorem dX10_addByte_41 : decode cX10_addByte 41 = .ok (.iconst 5, 1) := by decide +kernel
theorem dX10_addByte_42 : decode cX10_addByte 42 = .ok (.bipush 6, 2) := by decide +kernel
theorem dX10_addByte_44 : decode cX10_addByte 44 = .ok (.iload_n 2, 1) := by decide +kernel
theorem dX10_addByte_45 : decode cX10_addByte 45 = .ok (.isub, 1) := by decide +kernel
theorem dX10_addByte_46 : decode cX10_addByte 46 = .ok (.imul, 1) := by decide +kernel
theorem dX10_addByte_47 : decode cX10_addByte 47 = .ok (.ishl, 1) := by decide +kernel
theorem dX10_addByte_48 : decode cX10_addByte 48 = .ok (.ior, 1) := by decide +kernel
theorem dX10_addByte_49 : decode cX10_addByte 49 = .ok (.putfield 59, 3) := by decide +kernel
theorem dX10_addByte_52 : decode cX10_addByte 52 = .ok (.goto 33, 3) := by decide +kernel
theorem dX10_addByte_55 : decode cX10_addByte 55 = .ok (.aload_n 0, 1) := by decide +kernel
theorem dX10_addByte_56 : decode cX10_addByte 56 = .ok (.getfield 46, 3) := by decide +kernel
theorem dX10_addByte_59 : decode cX10_addByte 59 = .ok (.iconst 2, 1) := by decide +kernel
theorem dX10_addByte_60 : decode cX10_addByte 60 = .ok (.if_icmp .ne 25, 3) := by decide +kernel
theorem dX10_addByte_63 : decode cX10_addByte 63 = .ok (.iload_n 2, 1) := by decide +kernel
theorem dX10_addByte_64 : decode cX10_addByte 64 = .ok (.bipush 8, 2) := by decide +kernel
theorem dX10_addByte_66 : decode cX10_addByte 66 = .ok (.if_icmp .gt 19, 3) := by decide +kernel
theorem dX10_addByte_69 : decode cX10_addByte 69 = .ok (.aload_n 0, 1) := by decide +kernel
theorem dX10_addByte_70 : decode cX10_addByte 70 = .ok (.aload_n 0, 1) := by decide +kernel
theorem dX10_addByte_71 : decode cX10_addByte 71 = .ok (.getfield 59, 3) := by decide +kernel
theorem dX10_addByte_74 : decode cX10_addByte 74 = .ok (.bipush 10, 2) := by decide +kernel
theorem dX10_addByte_76 : decode cX10_addByte 76 = .ok (.imul, 1) := by decide +kernel
theorem dX10_addByte_77 : decode cX10_addByte 77 = .ok (.iload_n 1, 1) := by decide +kernel
theorem dX10_addByte_78 : decode cX10_addByte 78 = .ok (.iadd, 1) := by decide +kernel
theorem dX10_addByte_79 : decode cX10_addByte 79 = .ok (.bipush 48, 2) := by decide +kernel
theorem dX10_addByte_81 : decode cX10_addByte 81 = .ok (.isub, 1) := by decide +kernel
theorem dX10_addByte_82 : decode cX10_addByte 82 = .ok (.putfield 59, 3) := by decide +kernel
theorem dX10_addByte_85 : decode cX10_addByte 85 = .ok (.return_, 1) := by decide +kernel
theorem dX10_findOwn_0 : decode cX10_findOwn 0 = .ok (.iconst 0, 1) := by decide +kernel
theorem dX10_findOwn_1 : decode cX10_findOwn 1 = .ok (.istore_n 2, 1) := by decide +kernel
theorem dX10_findOwn_2 : decode cX10_findOwn 2 = .ok (.iload_n 2, 1) := by decide +kernel
theorem dX10_findOwn_3 : decode cX10_findOwn 3 = .ok (.bipush 13, 2) := by decide +kernel
theorem dX10_findOwn_5 : decode cX10_findOwn 5 = .ok (.if_icmp .ge 21, 3) := by decide +kernel
theorem dX10_findOwn_8 : decode cX10_findOwn 8 = .ok (.aload_n 0, 1) := by decide +kernel
theorem dX10_findOwn_9 : decode cX10_findOwn 9 = .ok (.getfield 11, 3) := by decide +kernel
theorem dX10_findOwn_12 : decode cX10_findOwn 12 = .ok (.iload_n 2, 1) := by decide +kernel
theorem dX10_findOwn_13 : decode cX10_findOwn 13 = .ok (.iaload, 1) := by decide +kernel
theorem dX10_findOwn_14 : decode cX10_findOwn 14 = .ok (.iload_n 1, 1) := by decide +kernel
theorem dX10_findOwn_15 : decode cX10_findOwn 15 = .ok (.if_icmp .ne 5, 3) := by decide +kernel
theorem dX10_findOwn_18 : decode cX10_findOwn 18 = .ok (.iload_n 2, 1) := by decide +kernel
theorem dX10_findOwn_19 : decode cX10_findOwn 19 = .ok (.ireturn, 1) := by decide +kernel
theorem dX10_findOwn_20 : decode cX10_findOwn 20 = .ok (.iinc 2 1, 3) := by decide +kernel
theorem dX10_findOwn_23 : decode cX10_findOwn 23 = .ok (.goto (-21), 3) := by decide +kernel
theorem dX10_findOwn_26 : decode cX10_findOwn 26 = .ok (.iconst (-1), 1) := by decide +kernel
theorem dX10_findOwn_27 : decode cX10_findOwn 27 = .ok (.ireturn, 1) := by decide +kernel
theorem dX10_kindOf_0 : decode cX10_kindOf 0 = .ok (.iload_n 0, 1) := by decide +kernel
theorem dX10_kindOf_1 : decode cX10_kindOf 1 = .ok (.bipush 97, 2) := by decide +kernel
theorem dX10_kindOf_3 : decode cX10_kindOf 3 = .ok (.if_icmp .lt 11, 3) := by decide +kernel
theorem dX10_kindOf_6 : decode cX10_kindOf 6 = .ok (.iload_n 0, 1) := by decide +kernel
theorem dX10_kindOf_7 : decode cX10_kindOf 7 = .ok (.bipush 122, 2) := by decide +kernel
theorem dX10_kindOf_9 : decode cX10_kindOf 9 = .ok (.if_icmp .gt 5, 3) := by decide +kernel
theorem dX10_kindOf_12 : decode cX10_kindOf 12 = .ok (.iconst 1, 1) := by decide +kernel
theorem dX10_kindOf_13 : decode cX10_kindOf 13 = .ok (.ireturn, 1) := by decide +kernel
theorem dX10_kindOf_14 : decode cX10_kindOf 14 = .ok (.iload_n 0, 1) := by decide +kernel
theorem dX10_kindOf_15 : decode cX10_kindOf 15 = .ok (.bipush 48, 2) := by decide +kernel
theorem dX10_kindOf_17 : decode cX10_kindOf 17 = .ok (.if_icmp .lt 11, 3) := by decide +kernel
theorem dX10_kindOf_20 : decode cX10_kindOf 20 = .ok (.iload_n 0, 1) := by decide +kernel
theorem dX10_kindOf_21 : decode cX10_kindOf 21 = .ok (.bipush 57, 2) := by decide +kernel
theorem dX10_kindOf_23 : decode cX10_kindOf 23 = .ok (.if_icmp .gt 5, 3) := by decide +kernel
theorem dX10_kindOf_26 : decode cX10_kindOf 26 = .ok (.iconst 2, 1) := by decide +kernel
theorem dX10_kindOf_27 : decode cX10_kindOf 27 = .ok (.ireturn, 1) := by decide +kernel
theorem dX10_kindOf_28 : decode cX10_kindOf 28 = .ok (.iload_n 0, 1) := by decide +kernel
theorem dX10_kindOf_29 : decode cX10_kindOf 29 = .ok (.bipush 10, 2) := by decide +kernel
theorem dX10_kindOf_31 : decode cX10_kindOf 31 = .ok (.if_icmp .eq 9, 3) := by decide +kernel
theorem dX10_kindOf_34 : decode cX10_kindOf 34 = .ok (.iload_n 0, 1) := by decide +kernel
theorem dX10_kindOf_35 : decode cX10_kindOf 35 = .ok (.bipush 32, 2) := by decide +kernel
theorem dX10_kindOf_37 : decode cX10_kindOf 37 = .ok (.if_icmp .ne 7, 3) := by decide +kernel
theorem dX10_kindOf_40 : decode cX10_kindOf 40 = .ok (.iconst 5, 1) := by decide +kernel
theorem dX10_kindOf_41 : decode cX10_kindOf 41 = .ok (.goto 4, 3) := by decide +kernel
theorem dX10_kindOf_44 : decode cX10_kindOf 44 = .ok (.iconst 3, 1) := by decide +kernel
theorem dX10_kindOf_45 : decode cX10_kindOf 45 = .ok (.ireturn, 1) := by decide +kernel
theorem dX10_isSign_0 : decode cX10_isSign 0 = .ok (.aload_n 0, 1) := by decide +kernel
theorem dX10_isSign_1 : decode cX10_isSign 1 = .ok (.getfield 46, 3) := by decide +kernel
theorem dX10_isSign_4 : decode cX10_isSign 4 = .ok (.iconst 3, 1) := by decide +kernel
theorem dX10_isSign_5 : decode cX10_isSign 5 = .ok (.if_icmp .ne 15, 3) := by decide +kernel
theorem dX10_isSign_8 : decode cX10_isSign 8 = .ok (.aload_n 0, 1) := by decide +kernel
theorem dX10_isSign_9 : decode cX10_isSign 9 = .ok (.getfield 59, 3) := by decide +kernel
theorem dX10_isSign_12 : decode cX10_isSign 12 = .ok (.iload_n 1, 1) := by decide +kernel
theorem dX10_isSign_13 : decode cX10_isSign 13 = .ok (.if_icmp .ne 7, 3) := by decide +kernel
theorem dX10_isSign_16 : decode cX10_isSign 16 = .ok (.iconst 1, 1) := by decide +kernel
theorem dX10_isSign_17 : decode cX10_isSign 17 = .ok (.goto 4, 3) := by decide +kernel
theorem dX10_isSign_20 : decode cX10_isSign 20 = .ok (.iconst 0, 1) := by decide +kernel
theorem dX10_isSign_21 : decode cX10_isSign 21 = .ok (.ireturn, 1) := by decide +kernel
theorem dX10_isOwn_0 : decode cX10_isOwn 0 = .ok (.aload_n 0, 1) := by decide +kernel
theorem dX10_isOwn_1 : decode cX10_isOwn 1 = .ok (.getfield 46, 3) := by decide +kernel
theorem dX10_isOwn_4 : decode cX10_isOwn 4 = .ok (.iconst 1, 1) := by decide +kernel
theorem dX10_isOwn_5 : decode cX10_isOwn 5 = .ok (.if_icmp .ne 15, 3) := by decide +kernel
theorem dX10_isOwn_8 : decode cX10_isOwn 8 = .ok (.aload_n 0, 1) := by decide +kernel
theorem dX10_isOwn_9 : decode cX10_isOwn 9 = .ok (.getfield 70, 3) := by decide +kernel
theorem dX10_isOwn_12 : decode cX10_isOwn 12 = .ok (.iload_n 1, 1) := by decide +kernel
theorem dX10_isOwn_13 : decode cX10_isOwn 13 = .ok (.if_icmp .ne 7, 3) := by decide +kernel
theorem dX10_isOwn_16 : decode cX10_isOwn 16 = .ok (.iconst 1, 1) := by decide +kernel
theorem dX10_isOwn_17 : decode cX10_isOwn 17 = .ok (.goto 4, 3) := by decide +kernel
theorem dX10_isOwn_20 : decode cX10_isOwn 20 = .ok (.iconst 0, 1) := by decide +kernel
theorem dX10_isOwn_21 : decode cX10_isOwn 21 = .ok (.ireturn, 1) := by decide +kernel
theorem dX10_isName_0 : decode cX10_isName 0 = .ok (.aload_n 0, 1) := by decide +kernel
theorem dX10_isName_1 : decode cX10_isName 1 = .ok (.getfield 46, 3) := by decide +kernel
theorem dX10_isName_4 : decode cX10_isName 4 = .ok (.iconst 1, 1) := by decide +kernel
theorem dX10_isName_5 : decode cX10_isName 5 = .ok (.if_icmp .ne 15, 3) := by decide +kernel
theorem dX10_isName_8 : decode cX10_isName 8 = .ok (.aload_n 0, 1) := by decide +kernel
theorem dX10_isName_9 : decode cX10_isName 9 = .ok (.getfield 70, 3) := by decide +kernel
theorem dX10_isName_12 : decode cX10_isName 12 = .ok (.iconst (-1), 1) := by decide +kernel
theorem dX10_isName_13 : decode cX10_isName 13 = .ok (.if_icmp .ne 7, 3) := by decide +kernel
theorem dX10_isName_16 : decode cX10_isName 16 = .ok (.iconst 1, 1) := by decide +kernel
theorem dX10_isName_17 : decode cX10_isName 17 = .ok (.goto 4, 3) := by decide +kernel
theorem dX10_isName_20 : decode cX10_isName 20 = .ok (.iconst 0, 1) := by decide +kernel
theorem dX10_isName_21 : decode cX10_isName 21 = .ok (.ireturn, 1) := by decide +kernel
theorem dX11_init_0 : decode cX11_init 0 = .ok (.aload_n 0, 1) := by decide +kernel
theorem dX11_init_1 : decode cX11_init 1 = .ok (.invokespecial 1, 3) := by decide +kernel
theorem dX11_init_4 : decode cX11_init 4 = .ok (.aload_n 0, 1) := by decide +kernel
theorem dX11_init_5 : decode cX11_init 5 = .ok (.sipush 1200, 3) := by decide +kernel
theorem dX11_init_8 : decode cX11_init 8 = .ok (.newarray .byte, 2) := by decide +kernel
theorem dX11_init_10 : decode cX11_init 10 = .ok (.putfield 9, 3) := by decide +kernel
theorem dX11_init_13 : decode cX11_init 13 = .ok (.aload_n 0, 1) := by decide +kernel
theorem dX11_init_14 : decode cX11_init 14 = .ok (.iconst 5, 1) := by decide +kernel
theorem dX11_init_15 : decode cX11_init 15 = .ok (.newarray .int, 2) := by decide +kernel
theorem dX11_init_17 : decode cX11_init 17 = .ok (.putfield 13, 3) := by decide +kernel
theorem dX11_init_20 : decode cX11_init 20 = .ok (.aload_n 0, 1) := by decide +kernel
theorem dX11_init_21 : decode cX11_init 21 = .ok (.new 17, 3) := by decide +kernel
theorem dX11_init_24 : decode cX11_init 24 = .ok (.dup, 1) := by decide +kernel
theorem dX11_init_25 : decode cX11_init 25 = .ok (.invokespecial 19, 3) := by decide +kernel
theorem dX11_init_28 : decode cX11_init 28 = .ok (.putfield 20, 3) := by decide +kernel
theorem dX11_init_31 : decode cX11_init 31 = .ok (.aload_n 0, 1) := by decide +kernel
theorem dX11_init_32 : decode cX11_init 32 = .ok (.new 24, 3) := by decide +kernel
theorem dX11_init_35 : decode cX11_init 35 = .ok (.dup, 1) := by decide +kernel
theorem dX11_init_36 : decode cX11_init 36 = .ok (.invokespecial 26, 3) := by decide +kernel
theorem dX11_init_39 : decode cX11_init 39 = .ok (.putfield 27, 3) := by decide +kernel
theorem dX11_init_42 : decode cX11_init 42 = .ok (.aload_n 0, 1) := by decide +kernel
theorem dX11_init_43 : decode cX11_init 43 = .ok (.new 24, 3) := by decide +kernel
theorem dX11_init_46 : decode cX11_init 46 = .ok (.dup, 1) := by decide +kernel
theorem dX11_init_47 : decode cX11_init 47 = .ok (.invokespecial 26, 3) := by decide +kernel
theorem dX11_init_50 : decode cX11_init 50 = .ok (.putfield 31, 3) := by decide +kernel
theorem dX11_init_53 : decode cX11_init 53 = .ok (.aload_n 0, 1) := by decide +kernel
theorem dX11_init_54 : decode cX11_init 54 = .ok (.bipush 14, 2) := by decide +kernel
theorem dX11_init_56 : decode cX11_init 56 = .ok (.newarray .int, 2) := by decide +kernel
theorem dX11_init_58 : decode cX11_init 58 = .ok (.putfield 34, 3) := by decide +kernel
theorem dX11_init_61 : decode cX11_init 61 = .ok (.aload_n 0, 1) := by decide +kernel
theorem dX11_init_62 : decode cX11_init 62 = .ok (.bipush 14, 2) := by decide +kernel
theorem dX11_init_64 : decode cX11_init 64 = .ok (.newarray .int, 2) := by decide +kernel
theorem dX11_init_66 : decode cX11_init 66 = .ok (.putfield 37, 3) := by decide +kernel
theorem dX11_init_69 : decode cX11_init 69 = .ok (.aload_n 0, 1) := by decide +kernel
theorem dX11_init_70 : decode cX11_init 70 = .ok (.new 40, 3) := by decide +kernel
theorem dX11_init_73 : decode cX11_init 73 = .ok (.dup, 1) := by decide +kernel
theorem dX11_init_74 : decode cX11_init 74 = .ok (.invokespecial 42, 3) := by decide +kernel
theorem dX11_init_77 : decode cX11_init 77 = .ok (.putfield 43, 3) := by decide +kernel
theorem dX11_init_80 : decode cX11_init 80 = .ok (.aload_n 0, 1) := by decide +kernel
theorem dX11_init_81 : decode cX11_init 81 = .ok (.new 40, 3) := by decide +kernel
theorem dX11_init_84 : decode cX11_init 84 = .ok (.dup, 1) := by decide +kernel
theorem dX11_init_85 : decode cX11_init 85 = .ok (.invokespecial 42, 3) := by decide +kernel
theorem dX11_init_88 : decode cX11_init 88 = .ok (.putfield 47, 3) := by decide +kernel
theorem dX11_init_91 : decode cX11_init 91 = .ok (.aload_n 0, 1) := by decide +kernel
theorem dX11_init_92 : decode cX11_init 92 = .ok (.new 50, 3) := by decide +kernel
theorem dX11_init_95 : decode cX11_init 95 = .ok (.dup, 1) := by decide +kernel
theorem dX11_init_96 : decode cX11_init 96 = .ok (.invokespecial 52, 3) := by decide +kernel
theorem dX11_init_99 : decode cX11_init 99 = .ok (.putfield 53, 3) := by decide +kernel
theorem dX11_init_102 : decode cX11_init 102 = .ok (.aload_n 0, 1) := by decide +kernel
theorem dX11_init_103 : decode cX11_init 103 = .ok (.new 57, 3) := by decide +kernel
theorem dX11_init_106 : decode cX11_init 106 = .ok (.dup, 1) := by decide +kernel
theorem dX11_init_107 : decode cX11_init 107 = .ok (.invokespecial 59, 3) := by decide +kernel
theorem dX11_init_110 : decode cX11_init 110 = .ok (.putfield 60, 3) := by decide +kernel
theorem dX11_init_113 : decode cX11_init 113 = .ok (.aload_n 0, 1) := by decide +kernel
theorem dX11_init_114 : decode cX11_init 114 = .ok (.new 64, 3) := by decide +kernel
theorem dX11_init_117 : decode cX11_init 117 = .ok (.dup, 1) := by decide +kernel
theorem dX11_init_118 : decode cX11_init 118 = .ok (.invokespecial 66, 3) := by decide +kernel
theorem dX11_init_121 : decode cX11_init 121 = .ok (.putfield 67, 3) := by decide +kernel
theorem dX11_init_124 : decode cX11_init 124 = .ok (.aload_n 0, 1) := by decide +kernel
theorem dX11_init_125 : decode cX11_init 125 = .ok (.new 71, 3) := by decide +kernel
theorem dX11_init_128 : decode cX11_init 128 = .ok (.dup, 1) := by decide +kernel
theorem dX11_init_129 : decode cX11_init 129 = .ok (.invokespecial 73, 3) := by decide +kernel
theorem dX11_init_132 : decode cX11_init 132 = .ok (.putfield 74, 3) := by decide +kernel
theorem dX11_init_135 : decode cX11_init 135 = .ok (.aload_n 0, 1) := by decide +kernel
theorem dX11_init_136 : decode cX11_init 136 = .ok (.new 78, 3) := by decide +kernel
theorem dX11_init_139 : decode cX11_init 139 = .ok (.dup, 1) := by decide +kernel
theorem dX11_init_140 : decode cX11_init 140 = .ok (.invokespecial 80, 3) := by decide +kernel
theorem dX11_init_143 : decode cX11_init 143 = .ok (.putfield 81, 3) := by decide +kernel
theorem dX11_init_146 : decode cX11_init 146 = .ok (.aload_n 0, 1) := by decide +kernel
theorem dX11_init_147 : decode cX11_init 147 = .ok (.iconst 1, 1) := by decide +kernel
theorem dX11_init_148 : decode cX11_init 148 = .ok (.putfield 85, 3) := by decide +kernel
theorem dX11_init_151 : decode cX11_init 151 = .ok (.return_, 1) := by decide +kernel
theorem dX11_feed_0 : decode cX11_feed 0 = .ok (.aload_n 0, 1) := by decide +kernel
theorem dX11_feed_1 : decode cX11_feed 1 = .ok (.getfield 89, 3) := by decide +kernel
theorem dX11_feed_4 : decode cX11_feed 4 = .ok (.sipush 1180, 3) := by decide +kernel
theorem dX11_feed_7 : decode cX11_feed 7 = .ok (.if_icmp .le 9, 3) := by decide +kernel
theorem dX11_feed_10 : decode cX11_feed 10 = .ok (.aload_n 0, 1) := by decide +kernel
theorem dX11_feed_11 : decode cX11_feed 11 = .ok (.iconst 0, 1) := by decide +kernel
theorem dX11_feed_12 : decode cX11_feed 12 = .ok (.invokevirtual 92, 3) := by decide +kernel
theorem dX11_feed_15 : decode cX11_feed 15 = .ok (.ireturn, 1) := by decide +kernel
theorem dX11_feed_16 : decode cX11_feed 16 = .ok (.aload_n 0, 1) := by decide +kernel
theorem dX11_feed_17 : decode cX11_feed 17 = .ok (.iload_n 1, 1) := by decide +kernel
theorem dX11_feed_18 : decode cX11_feed 18 = .ok (.invokevirtual 96, 3) := by decide +kernel
theorem dX11_feed_21 : decode cX11_feed 21 = .ok (.aload_n 0, 1) := by decide +kernel
theorem dX11_feed_22 : decode cX11_feed 22 = .ok (.iload_n 2, 1) := by decide +kernel
theorem dX11_feed_23 : decode cX11_feed 23 = .ok (.invokevirtual 96, 3) := by decide +kernel
theorem dX11_feed_26 : decode cX11_feed 26 = .ok (.aload_n 0, 1) := by decide +kernel
theorem dX11_feed_27 : decode cX11_feed 27 = .ok (.iload_n 3, 1) := by decide +kernel
theorem dX11_feed_28 : decode cX11_feed 28 = .ok (.invokevirtual 96, 3) := by decide +kernel
theorem dX11_feed_31 : decode cX11_feed 31 = .ok (.aload_n 0, 1) := by decide +kernel
theorem dX11_feed_32 : decode cX11_feed 32 = .ok (.iload 4, 2) := by decide +kernel
theorem dX11_feed_34 : decode cX11_feed 34 = .ok (.invokevirtual 96, 3) := by decide +kernel
theorem dX11_feed_37 : decode cX11_feed 37 = .ok (.aload_n 0, 1) := by decide +kernel
theorem dX11_feed_38 : decode cX11_feed 38 = .ok (.iload 5, 2) := by decide +kernel
theorem dX11_feed_40 : decode cX11_feed 40 = .ok (.invokevirtual 96, 3) := by decide +kernel
theorem dX11_feed_43 : decode cX11_feed 43 = .ok (.aload_n 0, 1) := by decide +kernel
theorem dX11_feed_44 : decode cX11_feed 44 = .ok (.getfield 89, 3) := by decide +kernel
theorem dX11_feed_47 : decode cX11_feed 47 = .ok (.ireturn, 1) := by decide +kernel
theorem dX11_end_0 : decode cX11_end 0 = .ok (.iload_n 1, 1) := by decide +kernel
theorem dX11_end_1 : decode cX11_end 1 = .ok (.ifCond .lt 11, 3) := by decide +kernel
theorem dX11_end_4 : decode cX11_end 4 = .ok (.iload_n 1, 1) := by decide +kernel
theorem dX11_end_5 : decode cX11_end 5 = .ok (.aload_n 0, 1) := by decide +kernel
theorem dX11_end_6 : decode cX11_end 6 = .ok (.getfield 89, 3) := by decide +kernel
theorem dX11_end_9 : decode cX11_end 9 = .ok (.if_icmp .le 11, 3) := by decide +kernel
theorem dX11_end_12 : decode cX11_end 12 = .ok (.aload_n 0, 1) := by decide +kernel
theorem dX11_end_13 : decode cX11_end 13 = .ok (.iconst 0, 1) := by decide +kernel
theorem dX11_end_14 : decode cX11_end 14 = .ok (.invokevirtual 92, 3) := by decide +kernel
theorem dX11_end_17 : decode cX11_end 17 = .ok (.pop, 1) := by decide +kernel
theorem dX11_end_18 : decode cX11_end 18 = .ok (.iconst 0, 1) := by decide +kernel
theorem dX11_end_19 : decode cX11_end 19 = .ok (.ireturn, 1) := by decide +kernel
theorem dX11_end_20 : decode cX11_end 20 = .ok (.aload_n 0, 1) := by decide +kernel
theorem dX11_end_21 : decode cX11_end 21 = .ok (.iload_n 1, 1) := by decide +kernel
theorem dX11_end_22 : decode cX11_end 22 = .ok (.putfield 89, 3) := by decide +kernel
theorem dX11_end_25 : decode cX11_end 25 = .ok (.iconst 1, 1) := by decide +kernel
theorem dX11_end_26 : decode cX11_end 26 = .ok (.ireturn, 1) := by decide +kernel
theorem dX11_task_0 : decode cX11_task 0 = .ok (.aload_n 0, 1) := by decide +kernel
theorem dX11_task_1 : decode cX11_task 1 = .ok (.getfield 89, 3) := by decide +kernel
theorem dX11_task_4 : decode cX11_task 4 = .ok (.istore_n 1, 1) := by decide +kernel
theorem dX11_task_5 : decode cX11_task 5 = .ok (.aload_n 0, 1) := by decide +kernel
theorem dX11_task_6 : decode cX11_task 6 = .ok (.iconst 0, 1) := by decide +kernel
theorem dX11_task_7 : decode cX11_task 7 = .ok (.putfield 89, 3) := by decide +kernel
theorem dX11_task_10 : decode cX11_task 10 = .ok (.aload_n 0, 1) := by decide +kernel
theorem dX11_task_11 : decode cX11_task 11 = .ok (.getfield 20, 3) := by decide +kernel
theorem dX11_task_14 : decode cX11_task 14 = .ok (.aload_n 0, 1) := by decide +kernel
theorem dX11_task_15 : decode cX11_task 15 = .ok (.getfield 9, 3) := by decide +kernel
theorem dX11_task_18 : decode cX11_task 18 = .ok (.iload_n 1, 1) := by decide +kernel
theorem dX11_task_19 : decode cX11_task 19 = .ok (.aload_n 0, 1) := by decide +kernel
theorem dX11_task_20 : decode cX11_task 20 = .ok (.getfield 31, 3) := by decide +kernel
theorem dX11_task_23 : decode cX11_task 23 = .ok (.invokevirtual 100, 3) := by decide +kernel
theorem dX11_task_26 : decode cX11_task 26 = .ok (.ifCond .ne 9, 3) := by decide +kernel
theorem dX11_task_29 : decode cX11_task 29 = .ok (.aload_n 0, 1) := by decide +kernel
theorem dX11_task_30 : decode cX11_task 30 = .ok (.iconst 1, 1) := by decide +kernel
theorem dX11_task_31 : decode cX11_task 31 = .ok (.invokevirtual 92, 3) := by decide +kernel
theorem dX11_task_34 : decode cX11_task 34 = .ok (.ireturn, 1) := by decide +kernel
theorem dX11_task_35 : decode cX11_task 35 = .ok (.aload_n 0, 1) := by decide +kernel
theorem dX11_task_36 : decode cX11_task 36 = .ok (.getfield 27, 3) := by decide +kernel
theorem dX11_task_39 : decode cX11_task 39 = .ok (.astore_n 2, 1) := by decide +kernel
theorem dX11_task_40 : decode cX11_task 40 = .ok (.aload_n 0, 1) := by decide +kernel
theorem dX11_task_41 : decode cX11_task 41 = .ok (.aload_n 0, 1) := by decide +kernel
theorem dX11_task_42 : decode cX11_task 42 = .ok (.getfield 31, 3) := by decide +kernel
theorem dX11_task_45 : decode cX11_task 45 = .ok (.putfield 27, 3) := by decide +kernel
theorem dX11_task_48 : decode cX11_task 48 = .ok (.aload_n 0, 1) := by decide +kernel
theorem dX11_task_49 : decode cX11_task 49 = .ok (.aload_n 2, 1) := by decide +kernel
theorem dX11_task_50 : decode cX11_task 50 = .ok (.putfield 31, 3) := by decide +kernel
theorem dX11_task_53 : decode cX11_task 53 = .ok (.aload_n 0, 1) := by decide +kernel
theorem dX11_task_54 : decode cX11_task 54 = .ok (.getfield 27, 3) := by decide +kernel
theorem dX11_task_57 : decode cX11_task 57 = .ok (.invokevirtual 104, 3) := by decide +kernel
theorem dX11_task_60 : decode cX11_task 60 = .ok (.aload_n 0, 1) := by decide +kernel
theorem dX11_task_61 : decode cX11_task 61 = .ok (.getfield 27, 3) := by decide +kernel
theorem dX11_task_64 : decode cX11_task 64 = .ok (.getfield 107, 3) := by decide +kernel
theorem dX11_task_67 : decode cX11_task 67 = .ok (.aload_n 0, 1) := by decide +kernel
theorem dX11_task_68 : decode cX11_task 68 = .ok (.getfield 34, 3) := by decide +kernel
theorem dX11_task_71 : decode cX11_task 71 = .ok (.iconst 0, 1) := by decide +kernel
theorem dX11_task_72 : decode cX11_task 72 = .ok (.invokevirtual 111, 3) := by decide +kernel
theorem dX11_task_75 : decode cX11_task 75 = .ok (.aload_n 0, 1) := by decide +kernel
theorem dX11_task_76 : decode cX11_task 76 = .ok (.getfield 60, 3) := by decide +kernel
theorem dX11_task_79 : decode cX11_task 79 = .ok (.invokevirtual 117, 3) := by decide +kernel
theorem dX11_task_82 : decode cX11_task 82 = .ok (.aload_n 0, 1) := by decide +kernel
theorem dX11_task_83 : decode cX11_task 83 = .ok (.getfield 67, 3) := by decide +kernel
theorem dX11_task_86 : decode cX11_task 86 = .ok (.invokevirtual 120, 3) := by decide +kernel
theorem dX11_task_89 : decode cX11_task 89 = .ok (.aload_n 0, 1) := by decide +kernel
theorem dX11_task_90 : decode cX11_task 90 = .ok (.getfield 74, 3) := by decide +kernel
theorem dX11_task_93 : decode cX11_task 93 = .ok (.invokevirtual 121, 3) := by decide +kernel
theorem dX11_task_96 : decode cX11_task 96 = .ok (.aload_n 0, 1) := by decide +kernel
theorem dX11_task_97 : decode cX11_task 97 = .ok (.getfield 27, 3) := by decide +kernel
theorem dX11_task_100 : decode cX11_task 100 = .ok (.getfield 122, 3) := by decide +kernel
theorem dX11_task_103 : decode cX11_task 103 = .ok (.getfield 126, 3) := by decide +kernel
theorem dX11_task_106 : decode cX11_task 106 = .ok (.ireturn, 1) := by decide +kernel
theorem dX11_fault_0 : decode cX11_fault 0 = .ok (.iload_n 1, 1) := by decide +kernel
theorem dX11_fault_1 : decode cX11_fault 1 = .ok (.ifCond .ne 11, 3) := by decide +kernel
theorem dX11_fault_4 : decode cX11_fault 4 = .ok (.aload_n 0, 1) := by decide +kernel
theorem dX11_fault_5 : decode cX11_fault 5 = .ok (.getfield 20, 3) := by decide +kernel
theorem dX11_fault_8 : decode cX11_fault 8 = .ok (.getfield 131, 3) := by decide +kernel
theorem dX11_fault_11 : decode cX11_fault 11 = .ok (.ireturn, 1) := by decide +kernel
theorem dX11_fault_12 : decode cX11_fault 12 = .ok (.iload_n 1, 1) := by decide +kernel
theorem dX11_fault_13 : decode cX11_fault 13 = .ok (.iconst 1, 1) := by decide +kernel
theorem dX11_fault_14 : decode cX11_fault 14 = .ok (.if_icmp .ne 13, 3) := by decide +kernel
theorem dX11_fault_17 : decode cX11_fault 17 = .ok (.aload_n 0, 1) := by decide +kernel
theorem dX11_fault_18 : decode cX11_fault 18 = .ok (.getfield 20, 3) := by decide +kernel
theorem dX11_fault_21 : decode cX11_fault 21 = .ok (.getfield 134, 3) := by decide +kernel
theorem dX11_fault_24 : decode cX11_fault 24 = .ok (.goto 4, 3) := by decide +kernel
theorem dX11_fault_27 : decode cX11_fault 27 = .ok (.iconst (-1), 1) := by decide +kernel
theorem dX11_fault_28 : decode cX11_fault 28 = .ok (.ireturn, 1) := by decide +kernel
theorem dX11_has_0 : decode cX11_has 0 = .ok (.iload_n 1, 1) := by decide +kernel
theorem dX11_has_1 : decode cX11_has 1 = .ok (.tableswitch 133 0 7 #[47, 58, 66, 77, 98, 109, 120, 128], 47) := by decide +kernel
theorem dX11_has_48 : decode cX11_has 48 = .ok (.aload_n 0, 1) := by decide +kernel
theorem dX11_has_49 : decode cX11_has 49 = .ok (.getfield 27, 3) := by decide +kernel
theorem dX11_has_52 : decode cX11_has 52 = .ok (.getfield 122, 3) := by decide +kernel
theorem dX11_has_55 : decode cX11_has 55 = .ok (.getfield 126, 3) := by decide +kernel
theorem dX11_has_58 : decode cX11_has 58 = .ok (.ireturn, 1) := by decide +kernel
theorem dX11_has_59 : decode cX11_has 59 = .ok (.aload_n 0, 1) := by decide +kernel
theorem dX11_has_60 : decode cX11_has 60 = .ok (.getfield 27, 3) := by decide +kernel
theorem dX11_has_63 : decode cX11_has 63 = .ok (.getfield 137, 3) := by decide +kernel
theorem dX11_has_66 : decode cX11_has 66 = .ok (.ireturn, 1) := by decide +kernel
theorem dX11_has_67 : decode cX11_has 67 = .ok (.aload_n 0, 1) := by decide +kernel
theorem dX11_has_68 : decode cX11_has 68 = .ok (.getfield 27, 3) := by decide +kernel
theorem dX11_has_71 : decode cX11_has 71 = .ok (.getfield 122, 3) := by decide +kernel
theorem dX11_has_74 : decode cX11_has 74 = .ok (.getfield 140, 3) := by decide +kernel
theorem dX11_has_77 : decode cX11_has 77 = .ok (.ireturn, 1) := by decide +kernel
theorem dX11_has_78 : decode cX11_has 78 = .ok (.aload_n 0, 1) := by decide +kernel
theorem dX11_has_79 : decode cX11_has 79 = .ok (.getfield 27, 3) := by decide +kernel
theorem dX11_has_82 : decode cX11_has 82 = .ok (.getfield 122, 3) := by decide +kernel
theorem dX11_has_85 : decode cX11_has 85 = .ok (.aload_n 0, 1) := by decide +kernel
theorem dX11_has_86 : decode cX11_has 86 = .ok (.getfield 27, 3) := by decide +kernel
theorem dX11_has_89 : decode cX11_has 89 = .ok (.getfield 122, 3) := by decide +kernel
theorem dX11_has_92 : decode cX11_has 92 = .ok (.getfield 126, 3) := by decide +kernel
theorem dX11_has_95 : decode cX11_has 95 = .ok (.invokevirtual 143, 3) := by decide +kernel
theorem dX11_has_98 : decode cX11_has 98 = .ok (.ireturn, 1) := by decide +kernel
theorem dX11_has_99 : decode cX11_has 99 = .ok (.aload_n 0, 1) := by decide +kernel
theorem dX11_has_100 : decode cX11_has 100 = .ok (.getfield 27, 3) := by decide +kernel
theorem dX11_has_103 : decode cX11_has 103 = .ok (.getfield 107, 3) := by decide +kernel
theorem dX11_has_106 : decode cX11_has 106 = .ok (.getfield 146, 3) := by decide +kernel
theorem dX11_has_109 : decode cX11_has 109 = .ok (.ireturn, 1) := by decide +kernel
theorem dX11_has_110 : decode cX11_has 110 = .ok (.aload_n 0, 1) := by decide +kernel
theorem dX11_has_111 : decode cX11_has 111 = .ok (.getfield 27, 3) := by decide +kernel
theorem dX11_has_114 : decode cX11_has 114 = .ok (.getfield 107, 3) := by decide +kernel
theorem dX11_has_117 : decode cX11_has 117 = .ok (.getfield 147, 3) := by decide +kernel
theorem dX11_has_120 : decode cX11_has 120 = .ok (.ireturn, 1) := by decide +kernel
theorem dX11_has_121 : decode cX11_has 121 = .ok (.aload_n 0, 1) := by decide +kernel
theorem dX11_has_122 : decode cX11_has 122 = .ok (.getfield 27, 3) := by decide +kernel
theorem dX11_has_125 : decode cX11_has 125 = .ok (.getfield 150, 3) := by decide +kernel
theorem dX11_has_128 : decode cX11_has 128 = .ok (.ireturn, 1) := by decide +kernel
theorem dX11_has_129 : decode cX11_has 129 = .ok (.aload_n 0, 1) := by decide +kernel
theorem dX11_has_130 : decode cX11_has 130 = .ok (.getfield 85, 3) := by decide +kernel
theorem dX11_has_133 : decode cX11_has 133 = .ok (.ireturn, 1) := by decide +kernel
theorem dX11_has_134 : decode cX11_has 134 = .ok (.iconst (-1), 1) := by decide +kernel
theorem dX11_has_135 : decode cX11_has 135 = .ok (.ireturn, 1) := by decide +kernel
theorem dX11_letter_0 : decode cX11_letter 0 = .ok (.iload_n 2, 1) := by decide +kernel
theorem dX11_letter_1 : decode cX11_letter 1 = .ok (.ifCond .eq 14, 3) := by decide +kernel
theorem dX11_letter_4 : decode cX11_letter 4 = .ok (.aload_n 0, 1) := by decide +kernel
theorem dX11_letter_5 : decode cX11_letter 5 = .ok (.getfield 27, 3) := by decide +kernel
theorem dX11_letter_8 : decode cX11_letter 8 = .ok (.iload_n 1, 1) := by decide +kernel
theorem dX11_letter_9 : decode cX11_letter 9 = .ok (.invokevirtual 153, 3) := by decide +kernel
theorem dX11_letter_12 : decode cX11_letter 12 = .ok (.goto 11, 3) := by decide +kernel
theorem dX11_letter_15 : decode cX11_letter 15 = .ok (.aload_n 0, 1) := by decide +kernel
theorem dX11_letter_16 : decode cX11_letter 16 = .ok (.getfield 27, 3) := by decide +kernel
theorem dX11_letter_19 : decode cX11_letter 19 = .ok (.iload_n 1, 1) := by decide +kernel
theorem dX11_letter_20 : decode cX11_letter 20 = .ok (.invokevirtual 157, 3) := by decide +kernel
theorem dX11_letter_23 : decode cX11_letter 23 = .ok (.istore 4, 2) := by decide +kernel
theorem dX11_letter_25 : decode cX11_letter 25 = .ok (.iload 4, 2) := by decide +kernel
theorem dX11_letter_27 : decode cX11_letter 27 = .ok (.ifCond .eq 13, 3) := by decide +kernel
theorem dX11_letter_30 : decode cX11_letter 30 = .ok (.iload_n 3, 1) := by decide +kernel
theorem dX11_letter_31 : decode cX11_letter 31 = .ok (.ifCond .lt 9, 3) := by decide +kernel
theorem dX11_letter_34 : decode cX11_letter 34 = .ok (.iload_n 3, 1) := by decide +kernel
theorem dX11_letter_35 : decode cX11_letter 35 = .ok (.bipush 6, 2) := by decide +kernel
theorem dX11_letter_37 : decode cX11_letter 37 = .ok (.if_icmp .lt 5, 3) := by decide +kernel
theorem dX11_letter_40 : decode cX11_letter 40 = .ok (.iconst (-1), 1) := by decide +kernel
theorem dX11_letter_41 : decode cX11_letter 41 = .ok (.ireturn, 1) := by decide +kernel
theorem dX11_letter_42 : decode cX11_letter 42 = .ok (.iload_n 2, 1) := by decide +kernel
theorem dX11_letter_43 : decode cX11_letter 43 = .ok (.ifCond .eq 15, 3) := by decide +kernel
theorem dX11_letter_46 : decode cX11_letter 46 = .ok (.aload_n 0, 1) := by decide +kernel
theorem dX11_letter_47 : decode cX11_letter 47 = .ok (.getfield 27, 3) := by decide +kernel
theorem dX11_letter_50 : decode cX11_letter 50 = .ok (.getfield 160, 3) := by decide +kernel
theorem dX11_letter_53 : decode cX11_letter 53 = .ok (.iload_n 1, 1) := by decide +kernel
theorem dX11_letter_54 : decode cX11_letter 54 = .ok (.iaload, 1) := by decide +kernel
theorem dX11_letter_55 : decode cX11_letter 55 = .ok (.goto 15, 3) := by decide +kernel
theorem dX11_letter_58 : decode cX11_letter 58 = .ok (.aload_n 0, 1) := by decide +kernel
theorem dX11_letter_59 : decode cX11_letter 59 = .ok (.getfield 27, 3) := by decide +kernel
theorem dX11_letter_62 : decode cX11_letter 62 = .ok (.getfield 122, 3) := by decide +kernel
theorem dX11_letter_65 : decode cX11_letter 65 = .ok (.getfield 163, 3) := by decide +kernel
theorem dX11_letter_68 : decode cX11_letter 68 = .ok (.iload_n 1, 1) := by decide +kernel
theorem dX11_letter_69 : decode cX11_letter 69 = .ok (.iaload, 1) := by decide +kernel
theorem dX11_letter_70 : decode cX11_letter 70 = .ok (.istore 5, 2) := by decide +kernel
theorem dX11_letter_72 : decode cX11_letter 72 = .ok (.iload 5, 2) := by decide +kernel
theorem dX11_letter_74 : decode cX11_letter 74 = .ok (.iload_n 3, 1) := by decide +kernel
theorem dX11_letter_75 : decode cX11_letter 75 = .ok (.invokestatic 166, 3) := by decide +kernel
theorem dX11_letter_78 : decode cX11_letter 78 = .ok (.ireturn, 1) := by decide +kernel
theorem dX11_format_0 : decode cX11_format 0 = .ok (.aload_n 0, 1) := by decide +kernel
theorem dX11_format_1 : decode cX11_format 1 = .ok (.getfield 27, 3) := by decide +kernel
theorem dX11_format_4 : decode cX11_format 4 = .ok (.iload_n 1, 1) := by decide +kernel
theorem dX11_format_5 : decode cX11_format 5 = .ok (.invokevirtual 153, 3) := by decide +kernel
theorem dX11_format_8 : decode cX11_format 8 = .ok (.ifCond .ne 5, 3) := by decide +kernel
theorem dX11_format_11 : decode cX11_format 11 = .ok (.iconst (-1), 1) := by decide +kernel
theorem dX11_format_12 : decode cX11_format 12 = .ok (.ireturn, 1) := by decide +kernel
theorem dX11_format_13 : decode cX11_format 13 = .ok (.iload_n 2, 1) := by decide +kernel
theorem dX11_format_14 : decode cX11_format 14 = .ok (.tableswitch 56 0 2 #[26, 36, 46], 26) := by decide +kernel
theorem dX11_format_40 : decode cX11_format 40 = .ok (.aload_n 0, 1) := by decide +kernel
theorem dX11_format_41 : decode cX11_format 41 = .ok (.getfield 27, 3) := by decide +kernel
theorem dX11_format_44 : decode cX11_format 44 = .ok (.getfield 170, 3) := by decide +kernel
theorem dX11_format_47 : decode cX11_format 47 = .ok (.iload_n 1, 1) := by decide +kernel
theorem dX11_format_48 : decode cX11_format 48 = .ok (.iaload, 1) := by decide +kernel
theorem dX11_format_49 : decode cX11_format 49 = .ok (.ireturn, 1) := by decide +kernel
theorem dX11_format_50 : decode cX11_format 50 = .ok (.aload_n 0, 1) := by decide +kernel
theorem dX11_format_51 : decode cX11_format 51 = .ok (.getfield 27, 3) := by decide +kernel
theorem dX11_format_54 : decode cX11_format 54 = .ok (.getfield 173, 3) := by decide +kernel
theorem dX11_format_57 : decode cX11_format 57 = .ok (.iload_n 1, 1) := by decide +kernel
theorem dX11_format_58 : decode cX11_format 58 = .ok (.iaload, 1) := by decide +kernel
theorem dX11_format_59 : decode cX11_format 59 = .ok (.ireturn, 1) := by decide +kernel
theorem dX11_format_60 : decode cX11_format 60 = .ok (.aload_n 0, 1) := by decide +kernel
theorem dX11_format_61 : decode cX11_format 61 = .ok (.getfield 27, 3) := by decide +kernel
theorem dX11_format_64 : decode cX11_format 64 = .ok (.getfield 176, 3) := by decide +kernel
theorem dX11_format_67 : decode cX11_format 67 = .ok (.iload_n 1, 1) := by decide +kernel
theorem dX11_format_68 : decode cX11_format 68 = .ok (.iaload, 1) := by decide +kernel
theorem dX11_format_69 : decode cX11_format 69 = .ok (.ireturn, 1) := by decide +kernel
theorem dX11_format_70 : decode cX11_format 70 = .ok (.iconst (-1), 1) := by decide +kernel
theorem dX11_format_71 : decode cX11_format 71 = .ok (.ireturn, 1) := by decide +kernel
theorem dX11_number_0 : decode cX11_number 0 = .ok (.aload_n 0, 1) := by decide +kernel
theorem dX11_number_1 : decode cX11_number 1 = .ok (.getfield 27, 3) := by decide +kernel
theorem dX11_number_4 : decode cX11_number 4 = .ok (.iload_n 1, 1) := by decide +kernel
theorem dX11_number_5 : decode cX11_number 5 = .ok (.invokevirtual 157, 3) := by decide +kernel
theorem dX11_number_8 : decode cX11_number 8 = .ok (.ifCond .ne 6, 3) := by decide +kernel
theorem dX11_number_11 : decode cX11_number 11 = .ok (.bipush (-2), 2) := by decide +kernel
theorem dX11_number_13 : decode cX11_number 13 = .ok (.ireturn, 1) := by decide +kernel
theorem dX11_number_14 : decode cX11_number 14 = .ok (.iload_n 2, 1) := by decide +kernel
theorem dX11_number_15 : decode cX11_number 15 = .ok (.tableswitch 115 0 5 #[37, 50, 63, 76, 89, 102], 37) := by decide +kernel
theorem dX11_number_52 : decode cX11_number 52 = .ok (.aload_n 0, 1) := by decide +kernel
theorem dX11_number_53 : decode cX11_number 53 = .ok (.getfield 27, 3) := by decide +kernel
theorem dX11_number_56 : decode cX11_number 56 = .ok (.getfield 122, 3) := by decide +kernel
theorem dX11_number_59 : decode cX11_number 59 = .ok (.getfield 179, 3) := by decide +kernel
theorem dX11_number_62 : decode cX11_number 62 = .ok (.iload_n 1, 1) := by decide +kernel
theorem dX11_number_63 : decode cX11_number 63 = .ok (.iaload, 1) := by decide +kernel
theorem dX11_number_64 : decode cX11_number 64 = .ok (.ireturn, 1) := by decide +kernel
theorem dX11_number_65 : decode cX11_number 65 = .ok (.aload_n 0, 1) := by decide +kernel
theorem dX11_number_66 : decode cX11_number 66 = .ok (.getfield 27, 3) := by decide +kernel
theorem dX11_number_69 : decode cX11_number 69 = .ok (.getfield 122, 3) := by decide +kernel
theorem dX11_number_72 : decode cX11_number 72 = .ok (.iload_n 1, 1) := by decide +kernel
theorem dX11_number_73 : decode cX11_number 73 = .ok (.iconst 0, 1) := by decide +kernel
theorem dX11_number_74 : decode cX11_number 74 = .ok (.invokevirtual 182, 3) := by decide +kernel
theorem dX11_number_77 : decode cX11_number 77 = .ok (.ireturn, 1) := by decide +kernel
theorem dX11_number_78 : decode cX11_number 78 = .ok (.aload_n 0, 1) := by decide +kernel
theorem dX11_number_79 : decode cX11_number 79 = .ok (.getfield 27, 3) := by decide +kernel
theorem dX11_number_82 : decode cX11_number 82 = .ok (.getfield 122, 3) := by decide +kernel
theorem dX11_number_85 : decode cX11_number 85 = .ok (.iload_n 1, 1) := by decide +kernel
theorem dX11_number_86 : decode cX11_number 86 = .ok (.iconst 1, 1) := by decide +kernel
theorem dX11_number_87 : decode cX11_number 87 = .ok (.invokevirtual 182, 3) := by decide +kernel
theorem dX11_number_90 : decode cX11_number 90 = .ok (.ireturn, 1) := by decide +kernel
theorem dX11_number_91 : decode cX11_number 91 = .ok (.aload_n 0, 1) := by decide +kernel
theorem dX11_number_92 : decode cX11_number 92 = .ok (.getfield 27, 3) := by decide +kernel
theorem dX11_number_95 : decode cX11_number 95 = .ok (.getfield 107, 3) := by decide +kernel
theorem dX11_number_98 : decode cX11_number 98 = .ok (.getfield 185, 3) := by decide +kernel
theorem dX11_number_101 : decode cX11_number 101 = .ok (.iload_n 1, 1) := by decide +kernel
theorem dX11_number_102 : decode cX11_number 102 = .ok (.iaload, 1) := by decide +kernel
theorem dX11_number_103 : decode cX11_number 103 = .ok (.ireturn, 1) := by decide +kernel
theorem dX11_number_104 : decode cX11_number 104 = .ok (.aload_n 0, 1) := by decide +kernel
theorem dX11_number_105 : decode cX11_number 105 = .ok (.getfield 27, 3) := by decide +kernel
theorem dX11_number_108 : decode cX11_number 108 = .ok (.getfield 122, 3) := by decide +kernel
theorem dX11_number_111 : decode cX11_number 111 = .ok (.getfield 188, 3) := by decide +kernel
theorem dX11_number_114 : decode cX11_number 114 = .ok (.iload_n 1, 1) := by decide +kernel
theorem dX11_number_115 : decode cX11_number 115 = .ok (.iaload, 1) := by decide +kernel
theorem dX11_number_116 : decode cX11_number 116 = .ok (.ireturn, 1) := by decide +kernel
theorem dX11_number_117 : decode cX11_number 117 = .ok (.aload_n 0, 1) := by decide +kernel
theorem dX11_number_118 : decode cX11_number 118 = .ok (.getfield 27, 3) := by decide +kernel
theorem dX11_number_121 : decode cX11_number 121 = .ok (.getfield 122, 3) := by decide +kernel
theorem dX11_number_124 : decode cX11_number 124 = .ok (.getfield 191, 3) := by decide +kernel
theorem dX11_number_127 : decode cX11_number 127 = .ok (.iload_n 1, 1) := by decide +kernel
theorem dX11_number_128 : decode cX11_number 128 = .ok (.iaload, 1) := by decide +kernel
theorem dX11_number_129 : decode cX11_number 129 = .ok (.ireturn, 1) := by decide +kernel
theorem dX11_number_130 : decode cX11_number 130 = .ok (.bipush (-2), 2) := by decide +kernel
theorem dX11_number_132 : decode cX11_number 132 = .ok (.ireturn, 1) := by decide +kernel
theorem dX11_told_0 : decode cX11_told 0 = .ok (.aload_n 0, 1) := by decide +kernel
theorem dX11_told_1 : decode cX11_told 1 = .ok (.getfield 27, 3) := by decide +kernel
theorem dX11_told_4 : decode cX11_told 4 = .ok (.iload_n 1, 1) := by decide +kernel
theorem dX11_told_5 : decode cX11_told 5 = .ok (.invokevirtual 157, 3) := by decide +kernel
theorem dX11_told_8 : decode cX11_told 8 = .ok (.ifCond .eq 12, 3) := by decide +kernel
theorem dX11_told_11 : decode cX11_told 11 = .ok (.iload_n 2, 1) := by decide +kernel
theorem dX11_told_12 : decode cX11_told 12 = .ok (.ifCond .lt 8, 3) := by decide +kernel
theorem dX11_told_15 : decode cX11_told 15 = .ok (.iload_n 2, 1) := by decide +kernel
theorem dX11_told_16 : decode cX11_told 16 = .ok (.iconst 1, 1) := by decide +kernel
theorem dX11_told_17 : decode cX11_told 17 = .ok (.if_icmp .le 7, 3) := by decide +kernel
theorem dX11_told_20 : decode cX11_told 20 = .ok (.ldc2_w 194, 3) := by decide +kernel
theorem dX11_told_23 : decode cX11_told 23 = .ok (.lreturn, 1) := by decide +kernel
theorem dX11_told_24 : decode cX11_told 24 = .ok (.aload_n 0, 1) := by decide +kernel
theorem dX11_told_25 : decode cX11_told 25 = .ok (.getfield 27, 3) := by decide +kernel
theorem dX11_told_28 : decode cX11_told 28 = .ok (.getfield 122, 3) := by decide +kernel
theorem dX11_told_31 : decode cX11_told 31 = .ok (.iload_n 1, 1) := by decide +kernel
theorem dX11_told_32 : decode cX11_told 32 = .ok (.iload_n 2, 1) := by decide +kernel
theorem dX11_told_33 : decode cX11_told 33 = .ok (.invokevirtual 182, 3) := by decide +kernel
theorem dX11_told_36 : decode cX11_told 36 = .ok (.iconst (-1), 1) := by decide +kernel
theorem dX11_told_37 : decode cX11_told 37 = .ok (.if_icmp .eq 7, 3) := by decide +kernel
theorem dX11_told_40 : decode cX11_told 40 = .ok (.ldc2_w 194, 3) := by decide +kernel
theorem dX11_told_43 : decode cX11_told 43 = .ok (.lreturn, 1) := by decide +kernel
theorem dX11_told_44 : decode cX11_told 44 = .ok (.aload_n 0, 1) := by decide +kernel
theorem dX11_told_45 : decode cX11_told 45 = .ok (.getfield 27, 3) := by decide +kernel
theorem dX11_told_48 : decode cX11_told 48 = .ok (.getfield 122, 3) := by decide +kernel
theorem dX11_told_51 : decode cX11_told 51 = .ok (.iload_n 1, 1) := by decide +kernel
theorem dX11_told_52 : decode cX11_told 52 = .ok (.iload_n 2, 1) := by decide +kernel
theorem dX11_told_53 : decode cX11_told 53 = .ok (.invokevirtual 196, 3) := by decide +kernel
theorem dX11_told_56 : decode cX11_told 56 = .ok (.lreturn, 1) := by decide +kernel
theorem dX11_range_0 : decode cX11_range 0 = .ok (.aload_n 0, 1) := by decide +kernel
theorem dX11_range_1 : decode cX11_range 1 = .ok (.getfield 27, 3) := by decide +kernel
theorem dX11_range_4 : decode cX11_range 4 = .ok (.iload_n 1, 1) := by decide +kernel
theorem dX11_range_5 : decode cX11_range 5 = .ok (.invokevirtual 157, 3) := by decide +kernel
theorem dX11_range_8 : decode cX11_range 8 = .ok (.ifCond .eq 18, 3) := by decide +kernel
theorem dX11_range_11 : decode cX11_range 11 = .ok (.aload_n 0, 1) := by decide +kernel
theorem dX11_range_12 : decode cX11_range 12 = .ok (.getfield 27, 3) := by decide +kernel
theorem dX11_range_15 : decode cX11_range 15 = .ok (.getfield 200, 3) := by decide +kernel
theorem dX11_range_18 : decode cX11_range 18 = .ok (.getfield 203, 3) := by decide +kernel
theorem dX11_range_21 : decode cX11_range 21 = .ok (.iload_n 1, 1) := by decide +kernel
theorem dX11_range_22 : decode cX11_range 22 = .ok (.baload, 1) := by decide +kernel
theorem dX11_range_23 : decode cX11_range 23 = .ok (.ifCond .eq 7, 3) := by decide +kernel
theorem dX11_range_26 : decode cX11_range 26 = .ok (.ldc2_w 194, 3) := by decide +kernel
theorem dX11_range_29 : decode cX11_range 29 = .ok (.lreturn, 1) := by decide +kernel
theorem dX11_range_30 : decode cX11_range 30 = .ok (.iload_n 2, 1) := by decide +kernel
theorem dX11_range_31 : decode cX11_range 31 = .ok (.ifCond .eq 18, 3) := by decide +kernel
theorem dX11_range_34 : decode cX11_range 34 = .ok (.aload_n 0, 1) := by decide +kernel
theorem dX11_range_35 : decode cX11_range 35 = .ok (.getfield 27, 3) := by decide +kernel
theorem dX11_range_38 : decode cX11_range 38 = .ok (.getfield 200, 3) := by decide +kernel
theorem dX11_range_41 : decode cX11_range 41 = .ok (.getfield 207, 3) := by decide +kernel
theorem dX11_range_44 : decode cX11_range 44 = .ok (.iload_n 1, 1) := by decide +kernel
theorem dX11_range_45 : decode cX11_range 45 = .ok (.laload, 1) := by decide +kernel
theorem dX11_range_46 : decode cX11_range 46 = .ok (.goto 15, 3) := by decide +kernel
theorem dX11_range_49 : decode cX11_range 49 = .ok (.aload_n 0, 1) := by decide +kernel
theorem dX11_range_50 : decode cX11_range 50 = .ok (.getfield 27, 3) := by decide +kernel
theorem dX11_range_53 : decode cX11_range 53 = .ok (.getfield 200, 3) := by decide +kernel
theorem dX11_range_56 : decode cX11_range 56 = .ok (.getfield 211, 3) := by decide +kernel
theorem dX11_range_59 : decode cX11_range 59 = .ok (.iload_n 1, 1) := by decide +kernel
theorem dX11_range_60 : decode cX11_range 60 = .ok (.laload, 1) := by decide +kernel
theorem dX11_range_61 : decode cX11_range 61 = .ok (.lreturn, 1) := by decide +kernel
theorem dX11_uses_0 : decode cX11_uses 0 = .ok (.aload_n 0, 1) := by decide +kernel
theorem dX11_uses_1 : decode cX11_uses 1 = .ok (.getfield 27, 3) := by decide +kernel
theorem dX11_uses_4 : decode cX11_uses 4 = .ok (.iload_n 1, 1) := by decide +kernel
theorem dX11_uses_5 : decode cX11_uses 5 = .ok (.invokevirtual 157, 3) := by decide +kernel
theorem dX11_uses_8 : decode cX11_uses 8 = .ok (.ifCond .eq 17, 3) := by decide +kernel
theorem dX11_uses_11 : decode cX11_uses 11 = .ok (.aload_n 0, 1) := by decide +kernel
theorem dX11_uses_12 : decode cX11_uses 12 = .ok (.getfield 27, 3) := by decide +kernel
theorem dX11_uses_15 : decode cX11_uses 15 = .ok (.getfield 122, 3) := by decide +kernel
theorem dX11_uses_18 : decode cX11_uses 18 = .ok (.iload_n 1, 1) := by decide +kernel
theorem dX11_uses_19 : decode cX11_uses 19 = .ok (.invokevirtual 214, 3) := by decide +kernel
theorem dX11_uses_22 : decode cX11_uses 22 = .ok (.goto 4, 3) := by decide +kernel
theorem dX11_uses_25 : decode cX11_uses 25 = .ok (.iconst (-1), 1) := by decide +kernel
theorem dX11_uses_26 : decode cX11_uses 26 = .ok (.ireturn, 1) := by decide +kernel
theorem dX11_depth_0 : decode cX11_depth 0 = .ok (.aload_n 0, 1) := by decide +kernel
theorem dX11_depth_1 : decode cX11_depth 1 = .ok (.getfield 27, 3) := by decide +kernel
theorem dX11_depth_4 : decode cX11_depth 4 = .ok (.iload_n 1, 1) := by decide +kernel
theorem dX11_depth_5 : decode cX11_depth 5 = .ok (.invokevirtual 157, 3) := by decide +kernel
theorem dX11_depth_8 : decode cX11_depth 8 = .ok (.ifCond .eq 18, 3) := by decide +kernel
theorem dX11_depth_11 : decode cX11_depth 11 = .ok (.aload_n 0, 1) := by decide +kernel
theorem dX11_depth_12 : decode cX11_depth 12 = .ok (.getfield 27, 3) := by decide +kernel
theorem dX11_depth_15 : decode cX11_depth 15 = .ok (.getfield 122, 3) := by decide +kernel
theorem dX11_depth_18 : decode cX11_depth 18 = .ok (.getfield 217, 3) := by decide +kernel
theorem dX11_depth_21 : decode cX11_depth 21 = .ok (.iload_n 1, 1) := by decide +kernel
theorem dX11_depth_22 : decode cX11_depth 22 = .ok (.iaload, 1) := by decide +kernel
theorem dX11_depth_23 : decode cX11_depth 23 = .ok (.goto 4, 3) := by decide +kernel
theorem dX11_depth_26 : decode cX11_depth 26 = .ok (.iconst (-1), 1) := by decide +kernel
theorem dX11_depth_27 : decode cX11_depth 27 = .ok (.ireturn, 1) := by decide +kernel
theorem dX11_chosen_0 : decode cX11_chosen 0 = .ok (.aload_n 0, 1) := by decide +kernel
theorem dX11_chosen_1 : decode cX11_chosen 1 = .ok (.getfield 27, 3) := by decide +kernel
theorem dX11_chosen_4 : decode cX11_chosen 4 = .ok (.invokevirtual 220, 3) := by decide +kernel
theorem dX11_chosen_7 : decode cX11_chosen 7 = .ok (.ifCond .eq 29, 3) := by decide +kernel
theorem dX11_chosen_10 : decode cX11_chosen 10 = .ok (.aload_n 0, 1) := by decide +kernel
theorem dX11_chosen_11 : decode cX11_chosen 11 = .ok (.getfield 27, 3) := by decide +kernel
theorem dX11_chosen_14 : decode cX11_chosen 14 = .ok (.iload_n 1, 1) := by decide +kernel
theorem dX11_chosen_15 : decode cX11_chosen 15 = .ok (.invokevirtual 157, 3) := by decide +kernel
theorem dX11_chosen_18 : decode cX11_chosen 18 = .ok (.ifCond .eq 18, 3) := by decide +kernel
theorem dX11_chosen_21 : decode cX11_chosen 21 = .ok (.aload_n 0, 1) := by decide +kernel
theorem dX11_chosen_22 : decode cX11_chosen 22 = .ok (.getfield 27, 3) := by decide +kernel
theorem dX11_chosen_25 : decode cX11_chosen 25 = .ok (.aload_n 0, 1) := by decide +kernel
theorem dX11_chosen_26 : decode cX11_chosen 26 = .ok (.getfield 34, 3) := by decide +kernel
theorem dX11_chosen_29 : decode cX11_chosen 29 = .ok (.iload_n 1, 1) := by decide +kernel
theorem dX11_chosen_30 : decode cX11_chosen 30 = .ok (.invokevirtual 224, 3) := by decide +kernel
theorem dX11_chosen_33 : decode cX11_chosen 33 = .ok (.goto 4, 3) := by decide +kernel
theorem dX11_chosen_36 : decode cX11_chosen 36 = .ok (.iconst (-1), 1) := by decide +kernel
theorem dX11_chosen_37 : decode cX11_chosen 37 = .ok (.ireturn, 1) := by decide +kernel
theorem dX11_choose_0 : decode cX11_choose 0 = .ok (.aload_n 0, 1) := by decide +kernel
theorem dX11_choose_1 : decode cX11_choose 1 = .ok (.getfield 27, 3) := by decide +kernel
theorem dX11_choose_4 : decode cX11_choose 4 = .ok (.invokevirtual 220, 3) := by decide +kernel
theorem dX11_choose_7 : decode cX11_choose 7 = .ok (.ifCond .eq 25, 3) := by decide +kernel
theorem dX11_choose_10 : decode cX11_choose 10 = .ok (.aload_n 0, 1) := by decide +kernel
theorem dX11_choose_11 : decode cX11_choose 11 = .ok (.getfield 27, 3) := by decide +kernel
theorem dX11_choose_14 : decode cX11_choose 14 = .ok (.iload_n 2, 1) := by decide +kernel
theorem dX11_choose_15 : decode cX11_choose 15 = .ok (.invokevirtual 153, 3) := by decide +kernel
theorem dX11_choose_18 : decode cX11_choose 18 = .ok (.ifCond .eq 14, 3) := by decide +kernel
theorem dX11_choose_21 : decode cX11_choose 21 = .ok (.aload_n 0, 1) := by decide +kernel
theorem dX11_choose_22 : decode cX11_choose 22 = .ok (.getfield 27, 3) := by decide +kernel
theorem dX11_choose_25 : decode cX11_choose 25 = .ok (.iload_n 1, 1) := by decide +kernel
theorem dX11_choose_26 : decode cX11_choose 26 = .ok (.invokevirtual 228, 3) := by decide +kernel
theorem dX11_choose_29 : decode cX11_choose 29 = .ok (.ifCond .ne 9, 3) := by decide +kernel
theorem dX11_choose_32 : decode cX11_choose 32 = .ok (.aload_n 0, 1) := by decide +kernel
theorem dX11_choose_33 : decode cX11_choose 33 = .ok (.iconst 2, 1) := by decide +kernel
theorem dX11_choose_34 : decode cX11_choose 34 = .ok (.invokevirtual 92, 3) := by decide +kernel
theorem dX11_choose_37 : decode cX11_choose 37 = .ok (.ireturn, 1) := by decide +kernel
theorem dX11_choose_38 : decode cX11_choose 38 = .ok (.aload_n 0, 1) := by decide +kernel
theorem dX11_choose_39 : decode cX11_choose 39 = .ok (.getfield 27, 3) := by decide +kernel
theorem dX11_choose_42 : decode cX11_choose 42 = .ok (.getfield 107, 3) := by decide +kernel
theorem dX11_choose_45 : decode cX11_choose 45 = .ok (.getfield 185, 3) := by decide +kernel
theorem dX11_choose_48 : decode cX11_choose 48 = .ok (.iload_n 1, 1) := by decide +kernel
theorem dX11_choose_49 : decode cX11_choose 49 = .ok (.iaload, 1) := by decide +kernel
theorem dX11_choose_50 : decode cX11_choose 50 = .ok (.istore_n 3, 1) := by decide +kernel
theorem dX11_choose_51 : decode cX11_choose 51 = .ok (.aload_n 0, 1) := by decide +kernel
theorem dX11_choose_52 : decode cX11_choose 52 = .ok (.getfield 34, 3) := by decide +kernel
theorem dX11_choose_55 : decode cX11_choose 55 = .ok (.iload_n 3, 1) := by decide +kernel
theorem dX11_choose_56 : decode cX11_choose 56 = .ok (.iaload, 1) := by decide +kernel
theorem dX11_choose_57 : decode cX11_choose 57 = .ok (.istore 4, 2) := by decide +kernel
theorem dX11_choose_59 : decode cX11_choose 59 = .ok (.aload_n 0, 1) := by decide +kernel
theorem dX11_choose_60 : decode cX11_choose 60 = .ok (.getfield 34, 3) := by decide +kernel
theorem dX11_choose_63 : decode cX11_choose 63 = .ok (.iload_n 3, 1) := by decide +kernel
theorem dX11_choose_64 : decode cX11_choose 64 = .ok (.iload_n 2, 1) := by decide +kernel
theorem dX11_choose_65 : decode cX11_choose 65 = .ok (.iastore, 1) := by decide +kernel
theorem dX11_choose_66 : decode cX11_choose 66 = .ok (.iload 4, 2) := by decide +kernel
theorem dX11_choose_68 : decode cX11_choose 68 = .ok (.ireturn, 1) := by decide +kernel
theorem dX11_cost_0 : decode cX11_cost 0 = .ok (.aload_n 0, 1) := by decide +kernel
theorem dX11_cost_1 : decode cX11_cost 1 = .ok (.getfield 27, 3) := by decide +kernel
theorem dX11_cost_4 : decode cX11_cost 4 = .ok (.invokevirtual 220, 3) := by decide +kernel
theorem dX11_cost_7 : decode cX11_cost 7 = .ok (.ifCond .eq 17, 3) := by decide +kernel
theorem dX11_cost_10 : decode cX11_cost 10 = .ok (.aload_n 0, 1) := by decide +kernel
theorem dX11_cost_11 : decode cX11_cost 11 = .ok (.getfield 27, 3) := by decide +kernel
theorem dX11_cost_14 : decode cX11_cost 14 = .ok (.aload_n 0, 1) := by decide +kernel
theorem dX11_cost_15 : decode cX11_cost 15 = .ok (.getfield 34, 3) := by decide +kernel
theorem dX11_cost_18 : decode cX11_cost 18 = .ok (.invokevirtual 231, 3) := by decide +kernel
theorem dX11_cost_21 : decode cX11_cost 21 = .ok (.goto 4, 3) := by decide +kernel
theorem dX11_cost_24 : decode cX11_cost 24 = .ok (.iconst (-1), 1) := by decide +kernel
theorem dX11_cost_25 : decode cX11_cost 25 = .ok (.ireturn, 1) := by decide +kernel
theorem dX11_casts_0 : decode cX11_casts 0 = .ok (.aload_n 0, 1) := by decide +kernel
theorem dX11_casts_1 : decode cX11_casts 1 = .ok (.getfield 27, 3) := by decide +kernel
theorem dX11_casts_4 : decode cX11_casts 4 = .ok (.invokevirtual 220, 3) := by decide +kernel
theorem dX11_casts_7 : decode cX11_casts 7 = .ok (.ifCond .eq 17, 3) := by decide +kernel
theorem dX11_casts_10 : decode cX11_casts 10 = .ok (.aload_n 0, 1) := by decide +kernel
theorem dX11_casts_11 : decode cX11_casts 11 = .ok (.getfield 27, 3) := by decide +kernel
theorem dX11_casts_14 : decode cX11_casts 14 = .ok (.aload_n 0, 1) := by decide +kernel
theorem dX11_casts_15 : decode cX11_casts 15 = .ok (.getfield 34, 3) := by decide +kernel
theorem dX11_casts_18 : decode cX11_casts 18 = .ok (.invokevirtual 235, 3) := by decide +kernel
theorem dX11_casts_21 : decode cX11_casts 21 = .ok (.goto 4, 3) := by decide +kernel
theorem dX11_casts_24 : decode cX11_casts 24 = .ok (.iconst (-1), 1) := by decide +kernel
theorem dX11_casts_25 : decode cX11_casts 25 = .ok (.ireturn, 1) := by decide +kernel
theorem dX11_fails_0 : decode cX11_fails 0 = .ok (.aload_n 0, 1) := by decide +kernel
theorem dX11_fails_1 : decode cX11_fails 1 = .ok (.getfield 27, 3) := by decide +kernel
theorem dX11_fails_4 : decode cX11_fails 4 = .ok (.invokevirtual 220, 3) := by decide +kernel
theorem dX11_fails_7 : decode cX11_fails 7 = .ok (.ifCond .ne 5, 3) := by decide +kernel
theorem dX11_fails_10 : decode cX11_fails 10 = .ok (.iconst (-1), 1) := by decide +kernel
theorem dX11_fails_11 : decode cX11_fails 11 = .ok (.ireturn, 1) := by decide +kernel
theorem dX11_fails_12 : decode cX11_fails 12 = .ok (.aload_n 0, 1) := by decide +kernel
theorem dX11_fails_13 : decode cX11_fails 13 = .ok (.getfield 43, 3) := by decide +kernel
theorem dX11_fails_16 : decode cX11_fails 16 = .ok (.aload_n 0, 1) := by decide +kernel
theorem dX11_fails_17 : decode cX11_fails 17 = .ok (.getfield 27, 3) := by decide +kernel
theorem dX11_fails_20 : decode cX11_fails 20 = .ok (.aload_n 0, 1) := by decide +kernel
theorem dX11_fails_21 : decode cX11_fails 21 = .ok (.getfield 27, 3) := by decide +kernel
theorem dX11_fails_24 : decode cX11_fails 24 = .ok (.getfield 200, 3) := by decide +kernel
theorem dX11_fails_27 : decode cX11_fails 27 = .ok (.aload_n 0, 1) := by decide +kernel
theorem dX11_fails_28 : decode cX11_fails 28 = .ok (.getfield 34, 3) := by decide +kernel
theorem dX11_fails_31 : decode cX11_fails 31 = .ok (.invokevirtual 238, 3) := by decide +kernel
theorem dX11_fails_34 : decode cX11_fails 34 = .ok (.pop, 1) := by decide +kernel
theorem dX11_fails_35 : decode cX11_fails 35 = .ok (.aload_n 0, 1) := by decide +kernel
theorem dX11_fails_36 : decode cX11_fails 36 = .ok (.getfield 43, 3) := by decide +kernel
theorem dX11_fails_39 : decode cX11_fails 39 = .ok (.getfield 242, 3) := by decide +kernel
theorem dX11_fails_42 : decode cX11_fails 42 = .ok (.ireturn, 1) := by decide +kernel
theorem dX11_why_0 : decode cX11_why 0 = .ok (.aload_n 0, 1) := by decide +kernel
theorem dX11_why_1 : decode cX11_why 1 = .ok (.getfield 27, 3) := by decide +kernel
theorem dX11_why_4 : decode cX11_why 4 = .ok (.invokevirtual 220, 3) := by decide +kernel
theorem dX11_why_7 : decode cX11_why 7 = .ok (.ifCond .ne 5, 3) := by decide +kernel
theorem dX11_why_10 : decode cX11_why 10 = .ok (.iconst (-1), 1) := by decide +kernel
theorem dX11_why_11 : decode cX11_why 11 = .ok (.ireturn, 1) := by decide +kernel
theorem dX11_why_12 : decode cX11_why 12 = .ok (.aload_n 0, 1) := by decide +kernel
theorem dX11_why_13 : decode cX11_why 13 = .ok (.getfield 43, 3) := by decide +kernel
theorem dX11_why_16 : decode cX11_why 16 = .ok (.aload_n 0, 1) := by decide +kernel
theorem dX11_why_17 : decode cX11_why 17 = .ok (.getfield 27, 3) := by decide +kernel
theorem dX11_why_20 : decode cX11_why 20 = .ok (.aload_n 0, 1) := by decide +kernel
theorem dX11_why_21 : decode cX11_why 21 = .ok (.getfield 27, 3) := by decide +kernel
theorem dX11_why_24 : decode cX11_why 24 = .ok (.getfield 200, 3) := by decide +kernel
theorem dX11_why_27 : decode cX11_why 27 = .ok (.aload_n 0, 1) := by decide +kernel
theorem dX11_why_28 : decode cX11_why 28 = .ok (.getfield 34, 3) := by decide +kernel
theorem dX11_why_31 : decode cX11_why 31 = .ok (.invokevirtual 238, 3) := by decide +kernel
theorem dX11_why_34 : decode cX11_why 34 = .ok (.pop, 1) := by decide +kernel
theorem dX11_why_35 : decode cX11_why 35 = .ok (.aload_n 0, 1) := by decide +kernel
theorem dX11_why_36 : decode cX11_why 36 = .ok (.getfield 43, 3) := by decide +kernel
theorem dX11_why_39 : decode cX11_why 39 = .ok (.getfield 245, 3) := by decide +kernel
theorem dX11_why_42 : decode cX11_why 42 = .ok (.ireturn, 1) := by decide +kernel
theorem dX11_error_0 : decode cX11_error 0 = .ok (.aload_n 0, 1) := by decide +kernel
theorem dX11_error_1 : decode cX11_error 1 = .ok (.getfield 27, 3) := by decide +kernel
theorem dX11_error_4 : decode cX11_error 4 = .ok (.invokevirtual 220, 3) := by decide +kernel
theorem dX11_error_7 : decode cX11_error 7 = .ok (.ifCond .eq 14, 3) := by decide +kernel
theorem dX11_error_10 : decode cX11_error 10 = .ok (.aload_n 0, 1) := by decide +kernel
theorem dX11_error_11 : decode cX11_error 11 = .ok (.getfield 27, 3) := by decide +kernel
theorem dX11_error_14 : decode cX11_error 14 = .ok (.iload_n 1, 1) := by decide +kernel
theorem dX11_error_15 : decode cX11_error 15 = .ok (.invokevirtual 157, 3) := by decide +kernel
theorem dX11_error_18 : decode cX11_error 18 = .ok (.ifCond .ne 7, 3) := by decide +kernel
theorem dX11_error_21 : decode cX11_error 21 = .ok (.ldc2_w 194, 3) := by decide +kernel
theorem dX11_error_24 : decode cX11_error 24 = .ok (.lreturn, 1) := by decide +kernel
theorem dX11_error_25 : decode cX11_error 25 = .ok (.aload_n 0, 1) := by decide +kernel
theorem dX11_error_26 : decode cX11_error 26 = .ok (.getfield 43, 3) := by decide +kernel
theorem dX11_error_29 : decode cX11_error 29 = .ok (.aload_n 0, 1) := by decide +kernel
theorem dX11_error_30 : decode cX11_error 30 = .ok (.getfield 27, 3) := by decide +kernel
theorem dX11_error_33 : decode cX11_error 33 = .ok (.aload_n 0, 1) := by decide +kernel
theorem dX11_error_34 : decode cX11_error 34 = .ok (.getfield 27, 3) := by decide +kernel
theorem dX11_error_37 : decode cX11_error 37 = .ok (.getfield 200, 3) := by decide +kernel
theorem dX11_error_40 : decode cX11_error 40 = .ok (.aload_n 0, 1) := by decide +kernel
theorem dX11_error_41 : decode cX11_error 41 = .ok (.getfield 34, 3) := by decide +kernel
theorem dX11_error_44 : decode cX11_error 44 = .ok (.invokevirtual 238, 3) := by decide +kernel
theorem dX11_error_47 : decode cX11_error 47 = .ok (.istore_n 2, 1) := by decide +kernel
theorem dX11_error_48 : decode cX11_error 48 = .ok (.iload_n 2, 1) := by decide +kernel
theorem dX11_error_49 : decode cX11_error 49 = .ok (.ifCond .ne 14, 3) := by decide +kernel
theorem dX11_error_52 : decode cX11_error 52 = .ok (.iload_n 1, 1) := by decide +kernel
theorem dX11_error_53 : decode cX11_error 53 = .ok (.aload_n 0, 1) := by decide +kernel
theorem dX11_error_54 : decode cX11_error 54 = .ok (.getfield 43, 3) := by decide +kernel
theorem dX11_error_57 : decode cX11_error 57 = .ok (.getfield 242, 3) := by decide +kernel
theorem dX11_error_60 : decode cX11_error 60 = .ok (.if_icmp .gt 15, 3) := by decide +kernel
theorem dX11_error_63 : decode cX11_error 63 = .ok (.aload_n 0, 1) := by decide +kernel
theorem dX11_error_64 : decode cX11_error 64 = .ok (.getfield 43, 3) := by decide +kernel
theorem dX11_error_67 : decode cX11_error 67 = .ok (.getfield 248, 3) := by decide +kernel
theorem dX11_error_70 : decode cX11_error 70 = .ok (.iload_n 1, 1) := by decide +kernel
theorem dX11_error_71 : decode cX11_error 71 = .ok (.laload, 1) := by decide +kernel
theorem dX11_error_72 : decode cX11_error 72 = .ok (.goto 6, 3) := by decide +kernel
theorem dX11_error_75 : decode cX11_error 75 = .ok (.ldc2_w 194, 3) := by decide +kernel
theorem dX11_error_78 : decode cX11_error 78 = .ok (.lreturn, 1) := by decide +kernel
theorem dX11_slack_0 : decode cX11_slack 0 = .ok (.aload_n 0, 1) := by decide +kernel
theorem dX11_slack_1 : decode cX11_slack 1 = .ok (.getfield 27, 3) := by decide +kernel
theorem dX11_slack_4 : decode cX11_slack 4 = .ok (.iload_n 1, 1) := by decide +kernel
theorem dX11_slack_5 : decode cX11_slack 5 = .ok (.invokevirtual 251, 3) := by decide +kernel
theorem dX11_slack_8 : decode cX11_slack 8 = .ok (.ifCond .eq 10, 3) := by decide +kernel
theorem dX11_slack_11 : decode cX11_slack 11 = .ok (.aload_n 0, 1) := by decide +kernel
theorem dX11_slack_12 : decode cX11_slack 12 = .ok (.invokevirtual 254, 3) := by decide +kernel
theorem dX11_slack_15 : decode cX11_slack 15 = .ok (.ifCond .ne 7, 3) := by decide +kernel
theorem dX11_slack_18 : decode cX11_slack 18 = .ok (.ldc2_w 194, 3) := by decide +kernel
theorem dX11_slack_21 : decode cX11_slack 21 = .ok (.lreturn, 1) := by decide +kernel
theorem dX11_slack_22 : decode cX11_slack 22 = .ok (.aload_n 0, 1) := by decide +kernel
theorem dX11_slack_23 : decode cX11_slack 23 = .ok (.getfield 27, 3) := by decide +kernel
theorem dX11_slack_26 : decode cX11_slack 26 = .ok (.getfield 122, 3) := by decide +kernel
theorem dX11_slack_29 : decode cX11_slack 29 = .ok (.getfield 191, 3) := by decide +kernel
theorem dX11_slack_32 : decode cX11_slack 32 = .ok (.iload_n 1, 1) := by decide +kernel
theorem dX11_slack_33 : decode cX11_slack 33 = .ok (.iaload, 1) := by decide +kernel
theorem dX11_slack_34 : decode cX11_slack 34 = .ok (.i2l, 1) := by decide +kernel
theorem dX11_slack_35 : decode cX11_slack 35 = .ok (.aload_n 0, 1) := by decide +kernel
theorem dX11_slack_36 : decode cX11_slack 36 = .ok (.getfield 43, 3) := by decide +kernel
theorem dX11_slack_39 : decode cX11_slack 39 = .ok (.getfield 248, 3) := by decide +kernel
theorem dX11_slack_42 : decode cX11_slack 42 = .ok (.iload_n 1, 1) := by decide +kernel
theorem dX11_slack_43 : decode cX11_slack 43 = .ok (.laload, 1) := by decide +kernel
theorem dX11_slack_44 : decode cX11_slack 44 = .ok (.lsub, 1) := by decide +kernel
theorem dX11_slack_45 : decode cX11_slack 45 = .ok (.lreturn, 1) := by decide +kernel
theorem dX11_widest_0 : decode cX11_widest 0 = .ok (.aload_n 0, 1) := by decide +kernel
theorem dX11_widest_1 : decode cX11_widest 1 = .ok (.getfield 27, 3) := by decide +kernel
theorem dX11_widest_4 : decode cX11_widest 4 = .ok (.iload_n 1, 1) := by decide +kernel
theorem dX11_widest_5 : decode cX11_widest 5 = .ok (.invokevirtual 257, 3) := by decide +kernel
theorem dX11_widest_8 : decode cX11_widest 8 = .ok (.ifCond .eq 10, 3) := by decide +kernel
theorem dX11_widest_11 : decode cX11_widest 11 = .ok (.aload_n 0, 1) := by decide +kernel
theorem dX11_widest_12 : decode cX11_widest 12 = .ok (.invokevirtual 254, 3) := by decide +kernel
theorem dX11_widest_15 : decode cX11_widest 15 = .ok (.ifCond .ne 5, 3) := by decide +kernel
theorem dX11_widest_18 : decode cX11_widest 18 = .ok (.iconst (-1), 1) := by decide +kernel
theorem dX11_widest_19 : decode cX11_widest 19 = .ok (.ireturn, 1) := by decide +kernel
theorem dX11_widest_20 : decode cX11_widest 20 = .ok (.aload_n 0, 1) := by decide +kernel
theorem dX11_widest_21 : decode cX11_widest 21 = .ok (.iload_n 1, 1) := by decide +kernel
theorem dX11_widest_22 : decode cX11_widest 22 = .ok (.ldc_w 260, 3) := by decide +kernel
theorem dX11_widest_25 : decode cX11_widest 25 = .ok (.invokevirtual 261, 3) := by decide +kernel
theorem dX11_widest_28 : decode cX11_widest 28 = .ok (.ifCond .eq 7, 3) := by decide +kernel
theorem dX11_widest_31 : decode cX11_widest 31 = .ok (.ldc_w 260, 3) := by decide +kernel
theorem dX11_widest_34 : decode cX11_widest 34 = .ok (.ireturn, 1) := by decide +kernel
theorem dX11_widest_35 : decode cX11_widest 35 = .ok (.iconst 0, 1) := by decide +kernel
theorem dX11_widest_36 : decode cX11_widest 36 = .ok (.istore_n 2, 1) := by decide +kernel
theorem dX11_widest_37 : decode cX11_widest 37 = .ok (.ldc_w 260, 3) := by decide +kernel
theorem dX11_widest_40 : decode cX11_widest 40 = .ok (.istore_n 3, 1) := by decide +kernel
theorem dX11_widest_41 : decode cX11_widest 41 = .ok (.iconst 0, 1) := by decide +kernel
theorem dX11_widest_42 : decode cX11_widest 42 = .ok (.istore 4, 2) := by decide +kernel
theorem dX11_widest_44 : decode cX11_widest 44 = .ok (.iload 4, 2) := by decide +kernel
theorem dX11_widest_46 : decode cX11_widest 46 = .ok (.bipush 32, 2) := by decide +kernel
theorem dX11_widest_48 : decode cX11_widest 48 = .ok (.if_icmp .ge 42, 3) := by decide +kernel
theorem dX11_widest_51 : decode cX11_widest 51 = .ok (.iload_n 3, 1) := by decide +kernel
theorem dX11_widest_52 : decode cX11_widest 52 = .ok (.iload_n 2, 1) := by decide +kernel
theorem dX11_widest_53 : decode cX11_widest 53 = .ok (.isub, 1) := by decide +kernel
theorem dX11_widest_54 : decode cX11_widest 54 = .ok (.iconst 1, 1) := by decide +kernel
theorem dX11_widest_55 : decode cX11_widest 55 = .ok (.if_icmp .le 35, 3) := by decide +kernel
theorem dX11_widest_58 : decode cX11_widest 58 = .ok (.iload_n 2, 1) := by decide +kernel
theorem dX11_widest_59 : decode cX11_widest 59 = .ok (.iload_n 3, 1) := by decide +kernel
theorem dX11_widest_60 : decode cX11_widest 60 = .ok (.iadd, 1) := by decide +kernel
theorem dX11_widest_61 : decode cX11_widest 61 = .ok (.iconst 2, 1) := by decide +kernel
theorem dX11_widest_62 : decode cX11_widest 62 = .ok (.idiv, 1) := by decide +kernel
theorem dX11_widest_63 : decode cX11_widest 63 = .ok (.istore 5, 2) := by decide +kernel
theorem dX11_widest_65 : decode cX11_widest 65 = .ok (.aload_n 0, 1) := by decide +kernel
theorem dX11_widest_66 : decode cX11_widest 66 = .ok (.iload_n 1, 1) := by decide +kernel
theorem dX11_widest_67 : decode cX11_widest 67 = .ok (.iload 5, 2) := by decide +kernel
theorem dX11_widest_69 : decode cX11_widest 69 = .ok (.invokevirtual 261, 3) := by decide +kernel
theorem dX11_widest_72 : decode cX11_widest 72 = .ok (.ifCond .eq 9, 3) := by decide +kernel
theorem dX11_widest_75 : decode cX11_widest 75 = .ok (.iload 5, 2) := by decide +kernel
theorem dX11_widest_77 : decode cX11_widest 77 = .ok (.istore_n 2, 1) := by decide +kernel
theorem dX11_widest_78 : decode cX11_widest 78 = .ok (.goto 6, 3) := by decide +kernel
theorem dX11_widest_81 : decode cX11_widest 81 = .ok (.iload 5, 2) := by decide +kernel
theorem dX11_widest_83 : decode cX11_widest 83 = .ok (.istore_n 3, 1) := by decide +kernel
theorem dX11_widest_84 : decode cX11_widest 84 = .ok (.iinc 4 1, 3) := by decide +kernel
theorem dX11_widest_87 : decode cX11_widest 87 = .ok (.goto (-43), 3) := by decide +kernel
theorem dX11_widest_90 : decode cX11_widest 90 = .ok (.iload_n 2, 1) := by decide +kernel
theorem dX11_widest_91 : decode cX11_widest 91 = .ok (.ireturn, 1) := by decide +kernel
theorem dX11_blame_0 : decode cX11_blame 0 = .ok (.aload_n 0, 1) := by decide +kernel
theorem dX11_blame_1 : decode cX11_blame 1 = .ok (.getfield 27, 3) := by decide +kernel
theorem dX11_blame_4 : decode cX11_blame 4 = .ok (.iload_n 1, 1) := by decide +kernel
theorem dX11_blame_5 : decode cX11_blame 5 = .ok (.invokevirtual 251, 3) := by decide +kernel
theorem dX11_blame_8 : decode cX11_blame 8 = .ok (.ifCond .eq 21, 3) := by decide +kernel
theorem dX11_blame_11 : decode cX11_blame 11 = .ok (.aload_n 0, 1) := by decide +kernel
theorem dX11_blame_12 : decode cX11_blame 12 = .ok (.getfield 27, 3) := by decide +kernel
theorem dX11_blame_15 : decode cX11_blame 15 = .ok (.iload_n 2, 1) := by decide +kernel
theorem dX11_blame_16 : decode cX11_blame 16 = .ok (.invokevirtual 228, 3) := by decide +kernel
theorem dX11_blame_19 : decode cX11_blame 19 = .ok (.ifCond .eq 10, 3) := by decide +kernel
theorem dX11_blame_22 : decode cX11_blame 22 = .ok (.aload_n 0, 1) := by decide +kernel
theorem dX11_blame_23 : decode cX11_blame 23 = .ok (.invokevirtual 254, 3) := by decide +kernel
theorem dX11_blame_26 : decode cX11_blame 26 = .ok (.ifCond .ne 7, 3) := by decide +kernel
theorem dX11_blame_29 : decode cX11_blame 29 = .ok (.ldc2_w 194, 3) := by decide +kernel
theorem dX11_blame_32 : decode cX11_blame 32 = .ok (.lreturn, 1) := by decide +kernel
theorem dX11_blame_33 : decode cX11_blame 33 = .ok (.aload_n 0, 1) := by decide +kernel
theorem dX11_blame_34 : decode cX11_blame 34 = .ok (.getfield 34, 3) := by decide +kernel
theorem dX11_blame_37 : decode cX11_blame 37 = .ok (.aload_n 0, 1) := by decide +kernel
theorem dX11_blame_38 : decode cX11_blame 38 = .ok (.getfield 37, 3) := by decide +kernel
theorem dX11_blame_41 : decode cX11_blame 41 = .ok (.invokestatic 265, 3) := by decide +kernel
theorem dX11_blame_44 : decode cX11_blame 44 = .ok (.aload_n 0, 1) := by decide +kernel
theorem dX11_blame_45 : decode cX11_blame 45 = .ok (.getfield 37, 3) := by decide +kernel
theorem dX11_blame_48 : decode cX11_blame 48 = .ok (.aload_n 0, 1) := by decide +kernel
theorem dX11_blame_49 : decode cX11_blame 49 = .ok (.getfield 27, 3) := by decide +kernel
theorem dX11_blame_52 : decode cX11_blame 52 = .ok (.getfield 107, 3) := by decide +kernel
theorem dX11_blame_55 : decode cX11_blame 55 = .ok (.getfield 185, 3) := by decide +kernel
theorem dX11_blame_58 : decode cX11_blame 58 = .ok (.iload_n 2, 1) := by decide +kernel
theorem dX11_blame_59 : decode cX11_blame 59 = .ok (.iaload, 1) := by decide +kernel
theorem dX11_blame_60 : decode cX11_blame 60 = .ok (.aload_n 0, 1) := by decide +kernel
theorem dX11_blame_61 : decode cX11_blame 61 = .ok (.getfield 27, 3) := by decide +kernel
theorem dX11_blame_64 : decode cX11_blame 64 = .ok (.invokevirtual 269, 3) := by decide +kernel
theorem dX11_blame_67 : decode cX11_blame 67 = .ok (.iastore, 1) := by decide +kernel
theorem dX11_blame_68 : decode cX11_blame 68 = .ok (.aload_n 0, 1) := by decide +kernel
theorem dX11_blame_69 : decode cX11_blame 69 = .ok (.getfield 47, 3) := by decide +kernel
theorem dX11_blame_72 : decode cX11_blame 72 = .ok (.aload_n 0, 1) := by decide +kernel
theorem dX11_blame_73 : decode cX11_blame 73 = .ok (.getfield 27, 3) := by decide +kernel
theorem dX11_blame_76 : decode cX11_blame 76 = .ok (.aload_n 0, 1) := by decide +kernel
theorem dX11_blame_77 : decode cX11_blame 77 = .ok (.getfield 27, 3) := by decide +kernel
theorem dX11_blame_80 : decode cX11_blame 80 = .ok (.getfield 200, 3) := by decide +kernel
theorem dX11_blame_83 : decode cX11_blame 83 = .ok (.aload_n 0, 1) := by decide +kernel
theorem dX11_blame_84 : decode cX11_blame 84 = .ok (.getfield 37, 3) := by decide +kernel
theorem dX11_blame_87 : decode cX11_blame 87 = .ok (.invokevirtual 238, 3) := by decide +kernel
theorem dX11_blame_90 : decode cX11_blame 90 = .ok (.ifCond .ne 7, 3) := by decide +kernel
theorem dX11_blame_93 : decode cX11_blame 93 = .ok (.ldc2_w 194, 3) := by decide +kernel
theorem dX11_blame_96 : decode cX11_blame 96 = .ok (.lreturn, 1) := by decide +kernel
theorem dX11_blame_97 : decode cX11_blame 97 = .ok (.aload_n 0, 1) := by decide +kernel
theorem dX11_blame_98 : decode cX11_blame 98 = .ok (.getfield 43, 3) := by decide +kernel
theorem dX11_blame_101 : decode cX11_blame 101 = .ok (.getfield 248, 3) := by decide +kernel
theorem dX11_blame_104 : decode cX11_blame 104 = .ok (.iload_n 1, 1) := by decide +kernel
theorem dX11_blame_105 : decode cX11_blame 105 = .ok (.laload, 1) := by decide +kernel
theorem dX11_blame_106 : decode cX11_blame 106 = .ok (.aload_n 0, 1) := by decide +kernel
theorem dX11_blame_107 : decode cX11_blame 107 = .ok (.getfield 47, 3) := by decide +kernel
theorem dX11_blame_110 : decode cX11_blame 110 = .ok (.getfield 248, 3) := by decide +kernel
theorem dX11_blame_113 : decode cX11_blame 113 = .ok (.iload_n 1, 1) := by decide +kernel
theorem dX11_blame_114 : decode cX11_blame 114 = .ok (.laload, 1) := by decide +kernel
theorem dX11_blame_115 : decode cX11_blame 115 = .ok (.lsub, 1) := by decide +kernel
theorem dX11_blame_116 : decode cX11_blame 116 = .ok (.lreturn, 1) := by decide +kernel
theorem dX11_cheapest_0 : decode cX11_cheapest 0 = .ok (.aload_n 0, 1) := by decide +kernel
theorem dX11_cheapest_1 : decode cX11_cheapest 1 = .ok (.getfield 60, 3) := by decide +kernel
theorem dX11_cheapest_4 : decode cX11_cheapest 4 = .ok (.aload_n 0, 1) := by decide +kernel
theorem dX11_cheapest_5 : decode cX11_cheapest 5 = .ok (.getfield 27, 3) := by decide +kernel
theorem dX11_cheapest_8 : decode cX11_cheapest 8 = .ok (.invokevirtual 273, 3) := by decide +kernel
theorem dX11_cheapest_11 : decode cX11_cheapest 11 = .ok (.ifCond .eq 14, 3) := by decide +kernel
theorem dX11_cheapest_14 : decode cX11_cheapest 14 = .ok (.aload_n 0, 1) := by decide +kernel
theorem dX11_cheapest_15 : decode cX11_cheapest 15 = .ok (.getfield 60, 3) := by decide +kernel
theorem dX11_cheapest_18 : decode cX11_cheapest 18 = .ok (.getfield 277, 3) := by decide +kernel
theorem dX11_cheapest_21 : decode cX11_cheapest 21 = .ok (.iconst (-1), 1) := by decide +kernel
theorem dX11_cheapest_22 : decode cX11_cheapest 22 = .ok (.if_icmp .ne 5, 3) := by decide +kernel
theorem dX11_cheapest_25 : decode cX11_cheapest 25 = .ok (.iconst (-1), 1) := by decide +kernel
theorem dX11_cheapest_26 : decode cX11_cheapest 26 = .ok (.ireturn, 1) := by decide +kernel
theorem dX11_cheapest_27 : decode cX11_cheapest 27 = .ok (.iload_n 1, 1) := by decide +kernel
theorem dX11_cheapest_28 : decode cX11_cheapest 28 = .ok (.iconst (-1), 1) := by decide +kernel
theorem dX11_cheapest_29 : decode cX11_cheapest 29 = .ok (.if_icmp .ne 11, 3) := by decide +kernel
theorem dX11_cheapest_32 : decode cX11_cheapest 32 = .ok (.aload_n 0, 1) := by decide +kernel
theorem dX11_cheapest_33 : decode cX11_cheapest 33 = .ok (.getfield 60, 3) := by decide +kernel
theorem dX11_cheapest_36 : decode cX11_cheapest 36 = .ok (.getfield 280, 3) := by decide +kernel
theorem dX11_cheapest_39 : decode cX11_cheapest 39 = .ok (.ireturn, 1) := by decide +kernel
theorem dX11_cheapest_40 : decode cX11_cheapest 40 = .ok (.aload_n 0, 1) := by decide +kernel
theorem dX11_cheapest_41 : decode cX11_cheapest 41 = .ok (.getfield 27, 3) := by decide +kernel
theorem dX11_cheapest_44 : decode cX11_cheapest 44 = .ok (.aload_n 0, 1) := by decide +kernel
theorem dX11_cheapest_45 : decode cX11_cheapest 45 = .ok (.getfield 60, 3) := by decide +kernel
theorem dX11_cheapest_48 : decode cX11_cheapest 48 = .ok (.getfield 277, 3) := by decide +kernel
theorem dX11_cheapest_51 : decode cX11_cheapest 51 = .ok (.aload_n 0, 1) := by decide +kernel
theorem dX11_cheapest_52 : decode cX11_cheapest 52 = .ok (.getfield 37, 3) := by decide +kernel
theorem dX11_cheapest_55 : decode cX11_cheapest 55 = .ok (.invokestatic 283, 3) := by decide +kernel
theorem dX11_cheapest_58 : decode cX11_cheapest 58 = .ok (.aload_n 0, 1) := by decide +kernel
theorem dX11_cheapest_59 : decode cX11_cheapest 59 = .ok (.getfield 27, 3) := by decide +kernel
theorem dX11_cheapest_62 : decode cX11_cheapest 62 = .ok (.iload_n 1, 1) := by decide +kernel
theorem dX11_cheapest_63 : decode cX11_cheapest 63 = .ok (.invokevirtual 157, 3) := by decide +kernel
theorem dX11_cheapest_66 : decode cX11_cheapest 66 = .ok (.ifCond .eq 18, 3) := by decide +kernel
theorem dX11_cheapest_69 : decode cX11_cheapest 69 = .ok (.aload_n 0, 1) := by decide +kernel
theorem dX11_cheapest_70 : decode cX11_cheapest 70 = .ok (.getfield 27, 3) := by decide +kernel
theorem dX11_cheapest_73 : decode cX11_cheapest 73 = .ok (.aload_n 0, 1) := by decide +kernel
theorem dX11_cheapest_74 : decode cX11_cheapest 74 = .ok (.getfield 37, 3) := by decide +kernel
theorem dX11_cheapest_77 : decode cX11_cheapest 77 = .ok (.iload_n 1, 1) := by decide +kernel
theorem dX11_cheapest_78 : decode cX11_cheapest 78 = .ok (.invokevirtual 224, 3) := by decide +kernel
theorem dX11_cheapest_81 : decode cX11_cheapest 81 = .ok (.goto 4, 3) := by decide +kernel
theorem dX11_cheapest_84 : decode cX11_cheapest 84 = .ok (.iconst (-1), 1) := by decide +kernel
theorem dX11_cheapest_85 : decode cX11_cheapest 85 = .ok (.ireturn, 1) := by decide +kernel
theorem dX11_passing_0 : decode cX11_passing 0 = .ok (.aload_n 0, 1) := by decide +kernel
theorem dX11_passing_1 : decode cX11_passing 1 = .ok (.getfield 60, 3) := by decide +kernel
theorem dX11_passing_4 : decode cX11_passing 4 = .ok (.aload_n 0, 1) := by decide +kernel
theorem dX11_passing_5 : decode cX11_passing 5 = .ok (.getfield 27, 3) := by decide +kernel
theorem dX11_passing_8 : decode cX11_passing 8 = .ok (.invokevirtual 273, 3) := by decide +kernel
theorem dX11_passing_11 : decode cX11_passing 11 = .ok (.ifCond .eq 13, 3) := by decide +kernel
theorem dX11_passing_14 : decode cX11_passing 14 = .ok (.aload_n 0, 1) := by decide +kernel
theorem dX11_passing_15 : decode cX11_passing 15 = .ok (.getfield 60, 3) := by decide +kernel
theorem dX11_passing_18 : decode cX11_passing 18 = .ok (.getfield 287, 3) := by decide +kernel
theorem dX11_passing_21 : decode cX11_passing 21 = .ok (.goto 4, 3) := by decide +kernel
theorem dX11_passing_24 : decode cX11_passing 24 = .ok (.iconst (-1), 1) := by decide +kernel
theorem dX11_passing_25 : decode cX11_passing 25 = .ok (.ireturn, 1) := by decide +kernel
theorem dX11_halves_0 : decode cX11_halves 0 = .ok (.aload_n 0, 1) := by decide +kernel
theorem dX11_halves_1 : decode cX11_halves 1 = .ok (.getfield 67, 3) := by decide +kernel
theorem dX11_halves_4 : decode cX11_halves 4 = .ok (.aload_n 0, 1) := by decide +kernel
theorem dX11_halves_5 : decode cX11_halves 5 = .ok (.getfield 27, 3) := by decide +kernel
theorem dX11_halves_8 : decode cX11_halves 8 = .ok (.invokevirtual 290, 3) := by decide +kernel
theorem dX11_halves_11 : decode cX11_halves 11 = .ok (.ifCond .ne 5, 3) := by decide +kernel
theorem dX11_halves_14 : decode cX11_halves 14 = .ok (.iconst (-1), 1) := by decide +kernel
theorem dX11_halves_15 : decode cX11_halves 15 = .ok (.ireturn, 1) := by decide +kernel
theorem dX11_halves_16 : decode cX11_halves 16 = .ok (.iload_n 1, 1) := by decide +kernel
theorem dX11_halves_17 : decode cX11_halves 17 = .ok (.bipush (-2), 2) := by decide +kernel
theorem dX11_halves_19 : decode cX11_halves 19 = .ok (.if_icmp .ne 11, 3) := by decide +kernel
theorem dX11_halves_22 : decode cX11_halves 22 = .ok (.aload_n 0, 1) := by decide +kernel
theorem dX11_halves_23 : decode cX11_halves 23 = .ok (.getfield 67, 3) := by decide +kernel
theorem dX11_halves_26 : decode cX11_halves 26 = .ok (.getfield 293, 3) := by decide +kernel
theorem dX11_halves_29 : decode cX11_halves 29 = .ok (.ireturn, 1) := by decide +kernel
theorem dX11_halves_30 : decode cX11_halves 30 = .ok (.iload_n 1, 1) := by decide +kernel
theorem dX11_halves_31 : decode cX11_halves 31 = .ok (.iconst (-1), 1) := by decide +kernel
theorem dX11_halves_32 : decode cX11_halves 32 = .ok (.if_icmp .ne 11, 3) := by decide +kernel
theorem dX11_halves_35 : decode cX11_halves 35 = .ok (.aload_n 0, 1) := by decide +kernel
theorem dX11_halves_36 : decode cX11_halves 36 = .ok (.getfield 67, 3) := by decide +kernel
theorem dX11_halves_39 : decode cX11_halves 39 = .ok (.getfield 296, 3) := by decide +kernel
theorem dX11_halves_42 : decode cX11_halves 42 = .ok (.ireturn, 1) := by decide +kernel
theorem dX11_halves_43 : decode cX11_halves 43 = .ok (.aload_n 0, 1) := by decide +kernel
theorem dX11_halves_44 : decode cX11_halves 44 = .ok (.getfield 27, 3) := by decide +kernel
theorem dX11_halves_47 : decode cX11_halves 47 = .ok (.iload_n 1, 1) := by decide +kernel
theorem dX11_halves_48 : decode cX11_halves 48 = .ok (.invokevirtual 157, 3) := by decide +kernel
theorem dX11_halves_51 : decode cX11_halves 51 = .ok (.ifCond .eq 21, 3) := by decide +kernel
theorem dX11_halves_54 : decode cX11_halves 54 = .ok (.aload_n 0, 1) := by decide +kernel
theorem dX11_halves_55 : decode cX11_halves 55 = .ok (.getfield 27, 3) := by decide +kernel
theorem dX11_halves_58 : decode cX11_halves 58 = .ok (.aload_n 0, 1) := by decide +kernel
theorem dX11_halves_59 : decode cX11_halves 59 = .ok (.getfield 67, 3) := by decide +kernel
theorem dX11_halves_62 : decode cX11_halves 62 = .ok (.getfield 298, 3) := by decide +kernel
theorem dX11_halves_65 : decode cX11_halves 65 = .ok (.iload_n 1, 1) := by decide +kernel
theorem dX11_halves_66 : decode cX11_halves 66 = .ok (.invokevirtual 224, 3) := by decide +kernel
theorem dX11_halves_69 : decode cX11_halves 69 = .ok (.goto 4, 3) := by decide +kernel
theorem dX11_halves_72 : decode cX11_halves 72 = .ok (.iconst (-1), 1) := by decide +kernel
theorem dX11_halves_73 : decode cX11_halves 73 = .ok (.ireturn, 1) := by decide +kernel
theorem dX11_single_0 : decode cX11_single 0 = .ok (.aload_n 0, 1) := by decide +kernel
theorem dX11_single_1 : decode cX11_single 1 = .ok (.getfield 27, 3) := by decide +kernel
theorem dX11_single_4 : decode cX11_single 4 = .ok (.invokevirtual 220, 3) := by decide +kernel
theorem dX11_single_7 : decode cX11_single 7 = .ok (.ifCond .ne 5, 3) := by decide +kernel
theorem dX11_single_10 : decode cX11_single 10 = .ok (.iconst (-1), 1) := by decide +kernel
theorem dX11_single_11 : decode cX11_single 11 = .ok (.ireturn, 1) := by decide +kernel
theorem dX11_single_12 : decode cX11_single 12 = .ok (.aload_n 0, 1) := by decide +kernel
theorem dX11_single_13 : decode cX11_single 13 = .ok (.getfield 67, 3) := by decide +kernel
theorem dX11_single_16 : decode cX11_single 16 = .ok (.aload_n 0, 1) := by decide +kernel
theorem dX11_single_17 : decode cX11_single 17 = .ok (.getfield 27, 3) := by decide +kernel
theorem dX11_single_20 : decode cX11_single 20 = .ok (.aload_n 0, 1) := by decide +kernel
theorem dX11_single_21 : decode cX11_single 21 = .ok (.getfield 34, 3) := by decide +kernel
theorem dX11_single_24 : decode cX11_single 24 = .ok (.invokevirtual 301, 3) := by decide +kernel
theorem dX11_single_27 : decode cX11_single 27 = .ok (.iload_n 1, 1) := by decide +kernel
theorem dX11_single_28 : decode cX11_single 28 = .ok (.tableswitch 74 0 3 #[32, 40, 48, 66], 32) := by decide +kernel
theorem dX11_single_60 : decode cX11_single 60 = .ok (.aload_n 0, 1) := by decide +kernel
theorem dX11_single_61 : decode cX11_single 61 = .ok (.getfield 67, 3) := by decide +kernel
theorem dX11_single_64 : decode cX11_single 64 = .ok (.getfield 305, 3) := by decide +kernel
theorem dX11_single_67 : decode cX11_single 67 = .ok (.ireturn, 1) := by decide +kernel
theorem dX11_single_68 : decode cX11_single 68 = .ok (.aload_n 0, 1) := by decide +kernel
theorem dX11_single_69 : decode cX11_single 69 = .ok (.getfield 67, 3) := by decide +kernel
theorem dX11_single_72 : decode cX11_single 72 = .ok (.getfield 308, 3) := by decide +kernel
theorem dX11_single_75 : decode cX11_single 75 = .ok (.ireturn, 1) := by decide +kernel
theorem dX11_single_76 : decode cX11_single 76 = .ok (.aload_n 0, 1) := by decide +kernel
theorem dX11_single_77 : decode cX11_single 77 = .ok (.getfield 27, 3) := by decide +kernel
theorem dX11_single_80 : decode cX11_single 80 = .ok (.getfield 107, 3) := by decide +kernel
theorem dX11_single_83 : decode cX11_single 83 = .ok (.aload_n 0, 1) := by decide +kernel
theorem dX11_single_84 : decode cX11_single 84 = .ok (.getfield 67, 3) := by decide +kernel
theorem dX11_single_87 : decode cX11_single 87 = .ok (.getfield 311, 3) := by decide +kernel
theorem dX11_single_90 : decode cX11_single 90 = .ok (.invokevirtual 314, 3) := by decide +kernel
theorem dX11_single_93 : decode cX11_single 93 = .ok (.ireturn, 1) := by decide +kernel
theorem dX11_single_94 : decode cX11_single 94 = .ok (.aload_n 0, 1) := by decide +kernel
theorem dX11_single_95 : decode cX11_single 95 = .ok (.getfield 67, 3) := by decide +kernel
theorem dX11_single_98 : decode cX11_single 98 = .ok (.getfield 317, 3) := by decide +kernel
theorem dX11_single_101 : decode cX11_single 101 = .ok (.ireturn, 1) := by decide +kernel
theorem dX11_single_102 : decode cX11_single 102 = .ok (.iconst (-1), 1) := by decide +kernel
theorem dX11_single_103 : decode cX11_single 103 = .ok (.ireturn, 1) := by decide +kernel
theorem dX11_take_0 : decode cX11_take 0 = .ok (.iconst 0, 1) := by decide +kernel
theorem dX11_take_1 : decode cX11_take 1 = .ok (.istore_n 2, 1) := by decide +kernel
theorem dX11_take_2 : decode cX11_take 2 = .ok (.iload_n 1, 1) := by decide +kernel
theorem dX11_take_3 : decode cX11_take 3 = .ok (.ifCond .ne 11, 3) := by decide +kernel
theorem dX11_take_6 : decode cX11_take 6 = .ok (.aload_n 0, 1) := by decide +kernel
theorem dX11_take_7 : decode cX11_take 7 = .ok (.invokevirtual 320, 3) := by decide +kernel
theorem dX11_take_10 : decode cX11_take 10 = .ok (.istore_n 2, 1) := by decide +kernel
theorem dX11_take_11 : decode cX11_take 11 = .ok (.goto 51, 3) := by decide +kernel
theorem dX11_take_14 : decode cX11_take 14 = .ok (.iload_n 1, 1) := by decide +kernel
theorem dX11_take_15 : decode cX11_take 15 = .ok (.iconst 1, 1) := by decide +kernel
theorem dX11_take_16 : decode cX11_take 16 = .ok (.if_icmp .ne 36, 3) := by decide +kernel
theorem dX11_take_19 : decode cX11_take 19 = .ok (.aload_n 0, 1) := by decide +kernel
theorem dX11_take_20 : decode cX11_take 20 = .ok (.getfield 67, 3) := by decide +kernel
theorem dX11_take_23 : decode cX11_take 23 = .ok (.aload_n 0, 1) := by decide +kernel
theorem dX11_take_24 : decode cX11_take 24 = .ok (.getfield 27, 3) := by decide +kernel
theorem dX11_take_27 : decode cX11_take 27 = .ok (.invokevirtual 290, 3) := by decide +kernel
theorem dX11_take_30 : decode cX11_take 30 = .ok (.ifCond .eq 22, 3) := by decide +kernel
theorem dX11_take_33 : decode cX11_take 33 = .ok (.iconst 1, 1) := by decide +kernel
theorem dX11_take_34 : decode cX11_take 34 = .ok (.istore_n 2, 1) := by decide +kernel
theorem dX11_take_35 : decode cX11_take 35 = .ok (.aload_n 0, 1) := by decide +kernel
theorem dX11_take_36 : decode cX11_take 36 = .ok (.getfield 67, 3) := by decide +kernel
theorem dX11_take_39 : decode cX11_take 39 = .ok (.getfield 298, 3) := by decide +kernel
theorem dX11_take_42 : decode cX11_take 42 = .ok (.aload_n 0, 1) := by decide +kernel
theorem dX11_take_43 : decode cX11_take 43 = .ok (.getfield 34, 3) := by decide +kernel
