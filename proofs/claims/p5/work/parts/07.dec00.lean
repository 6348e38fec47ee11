theorem dX12_isIn_0 : decode cX12_isIn 0 = .ok (.lload_n 0, 1) := by decide +kernel
theorem dX12_isIn_1 : decode cX12_isIn 1 = .ok (.lload_n 2, 1) := by decide +kernel
theorem dX12_isIn_2 : decode cX12_isIn 2 = .ok (.lcmp, 1) := by decide +kernel
theorem dX12_isIn_3 : decode cX12_isIn 3 = .ok (.ifCond .lt 14, 3) := by decide +kernel
theorem dX12_isIn_6 : decode cX12_isIn 6 = .ok (.lload_n 0, 1) := by decide +kernel
theorem dX12_isIn_7 : decode cX12_isIn 7 = .ok (.lload 4, 2) := by decide +kernel
theorem dX12_isIn_9 : decode cX12_isIn 9 = .ok (.lcmp, 1) := by decide +kernel
theorem dX12_isIn_10 : decode cX12_isIn 10 = .ok (.ifCond .gt 7, 3) := by decide +kernel
theorem dX12_isIn_13 : decode cX12_isIn 13 = .ok (.iconst 1, 1) := by decide +kernel
theorem dX12_isIn_14 : decode cX12_isIn 14 = .ok (.goto 4, 3) := by decide +kernel
theorem dX12_isIn_17 : decode cX12_isIn 17 = .ok (.iconst 0, 1) := by decide +kernel
theorem dX12_isIn_18 : decode cX12_isIn 18 = .ok (.ireturn, 1) := by decide +kernel
theorem dX12_amount_0 : decode cX12_amount 0 = .ok (.lload_n 0, 1) := by decide +kernel
theorem dX12_amount_1 : decode cX12_amount 1 = .ok (.lconst 0, 1) := by decide +kernel
theorem dX12_amount_2 : decode cX12_amount 2 = .ok (.lcmp, 1) := by decide +kernel
theorem dX12_amount_3 : decode cX12_amount 3 = .ok (.ifCond .ge 8, 3) := by decide +kernel
theorem dX12_amount_6 : decode cX12_amount 6 = .ok (.lload_n 0, 1) := by decide +kernel
theorem dX12_amount_7 : decode cX12_amount 7 = .ok (.lneg, 1) := by decide +kernel
theorem dX12_amount_8 : decode cX12_amount 8 = .ok (.goto 4, 3) := by decide +kernel
theorem dX12_amount_11 : decode cX12_amount 11 = .ok (.lload_n 0, 1) := by decide +kernel
theorem dX12_amount_12 : decode cX12_amount 12 = .ok (.lreturn, 1) := by decide +kernel
theorem dX12_greater_0 : decode cX12_greater 0 = .ok (.lload_n 0, 1) := by decide +kernel
theorem dX12_greater_1 : decode cX12_greater 1 = .ok (.lload_n 2, 1) := by decide +kernel
theorem dX12_greater_2 : decode cX12_greater 2 = .ok (.lcmp, 1) := by decide +kernel
theorem dX12_greater_3 : decode cX12_greater 3 = .ok (.ifCond .le 7, 3) := by decide +kernel
theorem dX12_greater_6 : decode cX12_greater 6 = .ok (.lload_n 0, 1) := by decide +kernel
theorem dX12_greater_7 : decode cX12_greater 7 = .ok (.goto 4, 3) := by decide +kernel
theorem dX12_greater_10 : decode cX12_greater 10 = .ok (.lload_n 2, 1) := by decide +kernel
theorem dX12_greater_11 : decode cX12_greater 11 = .ok (.lreturn, 1) := by decide +kernel
theorem dX12_lesser_0 : decode cX12_lesser 0 = .ok (.lload_n 0, 1) := by decide +kernel
theorem dX12_lesser_1 : decode cX12_lesser 1 = .ok (.lload_n 2, 1) := by decide +kernel
theorem dX12_lesser_2 : decode cX12_lesser 2 = .ok (.lcmp, 1) := by decide +kernel
theorem dX12_lesser_3 : decode cX12_lesser 3 = .ok (.ifCond .ge 7, 3) := by decide +kernel
theorem dX12_lesser_6 : decode cX12_lesser 6 = .ok (.lload_n 0, 1) := by decide +kernel
theorem dX12_lesser_7 : decode cX12_lesser 7 = .ok (.goto 4, 3) := by decide +kernel
theorem dX12_lesser_10 : decode cX12_lesser 10 = .ok (.lload_n 2, 1) := by decide +kernel
theorem dX12_lesser_11 : decode cX12_lesser 11 = .ok (.lreturn, 1) := by decide +kernel
theorem dX12_floor_0 : decode cX12_floor 0 = .ok (.lload_n 0, 1) := by decide +kernel
theorem dX12_floor_1 : decode cX12_floor 1 = .ok (.lload_n 2, 1) := by decide +kernel
theorem dX12_floor_2 : decode cX12_floor 2 = .ok (.ldiv, 1) := by decide +kernel
theorem dX12_floor_3 : decode cX12_floor 3 = .ok (.lstore 4, 2) := by decide +kernel
theorem dX12_floor_5 : decode cX12_floor 5 = .ok (.lload_n 0, 1) := by decide +kernel
theorem dX12_floor_6 : decode cX12_floor 6 = .ok (.lload_n 2, 1) := by decide +kernel
theorem dX12_floor_7 : decode cX12_floor 7 = .ok (.lrem, 1) := by decide +kernel
theorem dX12_floor_8 : decode cX12_floor 8 = .ok (.lconst 0, 1) := by decide +kernel
theorem dX12_floor_9 : decode cX12_floor 9 = .ok (.lcmp, 1) := by decide +kernel
theorem dX12_floor_10 : decode cX12_floor 10 = .ok (.ifCond .eq 16, 3) := by decide +kernel
theorem dX12_floor_13 : decode cX12_floor 13 = .ok (.lload_n 0, 1) := by decide +kernel
theorem dX12_floor_14 : decode cX12_floor 14 = .ok (.lconst 0, 1) := by decide +kernel
theorem dX12_floor_15 : decode cX12_floor 15 = .ok (.lcmp, 1) := by decide +kernel
theorem dX12_floor_16 : decode cX12_floor 16 = .ok (.ifCond .ge 10, 3) := by decide +kernel
theorem dX12_floor_19 : decode cX12_floor 19 = .ok (.lload 4, 2) := by decide +kernel
theorem dX12_floor_21 : decode cX12_floor 21 = .ok (.lconst 1, 1) := by decide +kernel
theorem dX12_floor_22 : decode cX12_floor 22 = .ok (.lsub, 1) := by decide +kernel
theorem dX12_floor_23 : decode cX12_floor 23 = .ok (.goto 5, 3) := by decide +kernel
theorem dX12_floor_26 : decode cX12_floor 26 = .ok (.lload 4, 2) := by decide +kernel
theorem dX12_floor_28 : decode cX12_floor 28 = .ok (.lreturn, 1) := by decide +kernel
theorem dX12_refuses_0 : decode cX12_refuses 0 = .ok (.aload_n 0, 1) := by decide +kernel
theorem dX12_refuses_1 : decode cX12_refuses 1 = .ok (.getfield 17, 3) := by decide +kernel
theorem dX12_refuses_4 : decode cX12_refuses 4 = .ok (.iload_n 1, 1) := by decide +kernel
theorem dX12_refuses_5 : decode cX12_refuses 5 = .ok (.dup2, 1) := by decide +kernel
theorem dX12_refuses_6 : decode cX12_refuses 6 = .ok (.iaload, 1) := by decide +kernel
theorem dX12_refuses_7 : decode cX12_refuses 7 = .ok (.iconst 1, 1) := by decide +kernel
theorem dX12_refuses_8 : decode cX12_refuses 8 = .ok (.iadd, 1) := by decide +kernel
theorem dX12_refuses_9 : decode cX12_refuses 9 = .ok (.iastore, 1) := by decide +kernel
theorem dX12_refuses_10 : decode cX12_refuses 10 = .ok (.iconst (-1), 1) := by decide +kernel
theorem dX12_refuses_11 : decode cX12_refuses 11 = .ok (.ireturn, 1) := by decide +kernel
theorem dX12_isRefused_0 : decode cX12_isRefused 0 = .ok (.aload_n 0, 1) := by decide +kernel
theorem dX12_isRefused_1 : decode cX12_isRefused 1 = .ok (.getfield 17, 3) := by decide +kernel
theorem dX12_isRefused_4 : decode cX12_isRefused 4 = .ok (.iload_n 1, 1) := by decide +kernel
theorem dX12_isRefused_5 : decode cX12_isRefused 5 = .ok (.dup2, 1) := by decide +kernel
theorem dX12_isRefused_6 : decode cX12_isRefused 6 = .ok (.iaload, 1) := by decide +kernel
theorem dX12_isRefused_7 : decode cX12_isRefused 7 = .ok (.iconst 1, 1) := by decide +kernel
theorem dX12_isRefused_8 : decode cX12_isRefused 8 = .ok (.iadd, 1) := by decide +kernel
theorem dX12_isRefused_9 : decode cX12_isRefused 9 = .ok (.iastore, 1) := by decide +kernel
theorem dX12_isRefused_10 : decode cX12_isRefused 10 = .ok (.iconst 0, 1) := by decide +kernel
theorem dX12_isRefused_11 : decode cX12_isRefused 11 = .ok (.ireturn, 1) := by decide +kernel
theorem dX12_lays_0 : decode cX12_lays 0 = .ok (.iconst 0, 1) := by decide +kernel
theorem dX12_lays_1 : decode cX12_lays 1 = .ok (.istore_n 2, 1) := by decide +kernel
theorem dX12_lays_2 : decode cX12_lays 2 = .ok (.iload_n 2, 1) := by decide +kernel
theorem dX12_lays_3 : decode cX12_lays 3 = .ok (.iconst 4, 1) := by decide +kernel
theorem dX12_lays_4 : decode cX12_lays 4 = .ok (.if_icmp .ge 33, 3) := by decide +kernel
theorem dX12_lays_7 : decode cX12_lays 7 = .ok (.aload_n 0, 1) := by decide +kernel
theorem dX12_lays_8 : decode cX12_lays 8 = .ok (.getfield 7, 3) := by decide +kernel
theorem dX12_lays_11 : decode cX12_lays 11 = .ok (.aload_n 0, 1) := by decide +kernel
theorem dX12_lays_12 : decode cX12_lays 12 = .ok (.getfield 13, 3) := by decide +kernel
theorem dX12_lays_15 : decode cX12_lays 15 = .ok (.iload_n 2, 1) := by decide +kernel
theorem dX12_lays_16 : decode cX12_lays 16 = .ok (.iadd, 1) := by decide +kernel
theorem dX12_lays_17 : decode cX12_lays 17 = .ok (.iload_n 1, 1) := by decide +kernel
theorem dX12_lays_18 : decode cX12_lays 18 = .ok (.bipush 24, 2) := by decide +kernel
theorem dX12_lays_20 : decode cX12_lays 20 = .ok (.bipush 8, 2) := by decide +kernel
theorem dX12_lays_22 : decode cX12_lays 22 = .ok (.iload_n 2, 1) := by decide +kernel
theorem dX12_lays_23 : decode cX12_lays 23 = .ok (.imul, 1) := by decide +kernel
theorem dX12_lays_24 : decode cX12_lays 24 = .ok (.isub, 1) := by decide +kernel
theorem dX12_lays_25 : decode cX12_lays 25 = .ok (.ishr, 1) := by decide +kernel
theorem dX12_lays_26 : decode cX12_lays 26 = .ok (.sipush 255, 3) := by decide +kernel
theorem dX12_lays_29 : decode cX12_lays 29 = .ok (.iand, 1) := by decide +kernel
theorem dX12_lays_30 : decode cX12_lays 30 = .ok (.iastore, 1) := by decide +kernel
theorem dX12_lays_31 : decode cX12_lays 31 = .ok (.iinc 2 1, 3) := by decide +kernel
theorem dX12_lays_34 : decode cX12_lays 34 = .ok (.goto (-32), 3) := by decide +kernel
theorem dX12_lays_37 : decode cX12_lays 37 = .ok (.aload_n 0, 1) := by decide +kernel
theorem dX12_lays_38 : decode cX12_lays 38 = .ok (.dup, 1) := by decide +kernel
theorem dX12_lays_39 : decode cX12_lays 39 = .ok (.getfield 13, 3) := by decide +kernel
theorem dX12_lays_42 : decode cX12_lays 42 = .ok (.iconst 4, 1) := by decide +kernel
theorem dX12_lays_43 : decode cX12_lays 43 = .ok (.iadd, 1) := by decide +kernel
theorem dX12_lays_44 : decode cX12_lays 44 = .ok (.putfield 13, 3) := by decide +kernel
theorem dX12_lays_47 : decode cX12_lays 47 = .ok (.return_, 1) := by decide +kernel
theorem dX12_feed_0 : decode cX12_feed 0 = .ok (.aload_n 0, 1) := by decide +kernel
theorem dX12_feed_1 : decode cX12_feed 1 = .ok (.getfield 13, 3) := by decide +kernel
theorem dX12_feed_4 : decode cX12_feed 4 = .ok (.bipush 20, 2) := by decide +kernel
theorem dX12_feed_6 : decode cX12_feed 6 = .ok (.iadd, 1) := by decide +kernel
theorem dX12_feed_7 : decode cX12_feed 7 = .ok (.sipush 1200, 3) := by decide +kernel
theorem dX12_feed_10 : decode cX12_feed 10 = .ok (.if_icmp .le 9, 3) := by decide +kernel
theorem dX12_feed_13 : decode cX12_feed 13 = .ok (.aload_n 0, 1) := by decide +kernel
theorem dX12_feed_14 : decode cX12_feed 14 = .ok (.iconst 0, 1) := by decide +kernel
theorem dX12_feed_15 : decode cX12_feed 15 = .ok (.invokevirtual 216, 3) := by decide +kernel
theorem dX12_feed_18 : decode cX12_feed 18 = .ok (.ireturn, 1) := by decide +kernel
theorem dX12_feed_19 : decode cX12_feed 19 = .ok (.aload_n 0, 1) := by decide +kernel
theorem dX12_feed_20 : decode cX12_feed 20 = .ok (.iload_n 1, 1) := by decide +kernel
theorem dX12_feed_21 : decode cX12_feed 21 = .ok (.invokevirtual 220, 3) := by decide +kernel
theorem dX12_feed_24 : decode cX12_feed 24 = .ok (.aload_n 0, 1) := by decide +kernel
theorem dX12_feed_25 : decode cX12_feed 25 = .ok (.iload_n 2, 1) := by decide +kernel
theorem dX12_feed_26 : decode cX12_feed 26 = .ok (.invokevirtual 220, 3) := by decide +kernel
theorem dX12_feed_29 : decode cX12_feed 29 = .ok (.aload_n 0, 1) := by decide +kernel
theorem dX12_feed_30 : decode cX12_feed 30 = .ok (.iload_n 3, 1) := by decide +kernel
theorem dX12_feed_31 : decode cX12_feed 31 = .ok (.invokevirtual 220, 3) := by decide +kernel
theorem dX12_feed_34 : decode cX12_feed 34 = .ok (.aload_n 0, 1) := by decide +kernel
theorem dX12_feed_35 : decode cX12_feed 35 = .ok (.iload 4, 2) := by decide +kernel
theorem dX12_feed_37 : decode cX12_feed 37 = .ok (.invokevirtual 220, 3) := by decide +kernel
theorem dX12_feed_40 : decode cX12_feed 40 = .ok (.aload_n 0, 1) := by decide +kernel
theorem dX12_feed_41 : decode cX12_feed 41 = .ok (.iload 5, 2) := by decide +kernel
theorem dX12_feed_43 : decode cX12_feed 43 = .ok (.invokevirtual 220, 3) := by decide +kernel
theorem dX12_feed_46 : decode cX12_feed 46 = .ok (.aload_n 0, 1) := by decide +kernel
theorem dX12_feed_47 : decode cX12_feed 47 = .ok (.getfield 13, 3) := by decide +kernel
theorem dX12_feed_50 : decode cX12_feed 50 = .ok (.ireturn, 1) := by decide +kernel
theorem dX12_end_0 : decode cX12_end 0 = .ok (.iload_n 1, 1) := by decide +kernel
theorem dX12_end_1 : decode cX12_end 1 = .ok (.ifCond .lt 11, 3) := by decide +kernel
theorem dX12_end_4 : decode cX12_end 4 = .ok (.iload_n 1, 1) := by decide +kernel
theorem dX12_end_5 : decode cX12_end 5 = .ok (.aload_n 0, 1) := by decide +kernel
theorem dX12_end_6 : decode cX12_end 6 = .ok (.getfield 13, 3) := by decide +kernel
theorem dX12_end_9 : decode cX12_end 9 = .ok (.if_icmp .le 9, 3) := by decide +kernel
theorem dX12_end_12 : decode cX12_end 12 = .ok (.aload_n 0, 1) := by decide +kernel
theorem dX12_end_13 : decode cX12_end 13 = .ok (.iconst 0, 1) := by decide +kernel
theorem dX12_end_14 : decode cX12_end 14 = .ok (.invokevirtual 224, 3) := by decide +kernel
theorem dX12_end_17 : decode cX12_end 17 = .ok (.ireturn, 1) := by decide +kernel
theorem dX12_end_18 : decode cX12_end 18 = .ok (.aload_n 0, 1) := by decide +kernel
theorem dX12_end_19 : decode cX12_end 19 = .ok (.iload_n 1, 1) := by decide +kernel
theorem dX12_end_20 : decode cX12_end 20 = .ok (.putfield 13, 3) := by decide +kernel
theorem dX12_end_23 : decode cX12_end 23 = .ok (.iconst 1, 1) := by decide +kernel
theorem dX12_end_24 : decode cX12_end 24 = .ok (.ireturn, 1) := by decide +kernel
theorem dX12_byteAt_0 : decode cX12_byteAt 0 = .ok (.iload_n 1, 1) := by decide +kernel
theorem dX12_byteAt_1 : decode cX12_byteAt 1 = .ok (.ifCond .lt 20, 3) := by decide +kernel
theorem dX12_byteAt_4 : decode cX12_byteAt 4 = .ok (.iload_n 1, 1) := by decide +kernel
theorem dX12_byteAt_5 : decode cX12_byteAt 5 = .ok (.aload_n 0, 1) := by decide +kernel
theorem dX12_byteAt_6 : decode cX12_byteAt 6 = .ok (.getfield 26, 3) := by decide +kernel
theorem dX12_byteAt_9 : decode cX12_byteAt 9 = .ok (.if_icmp .ge 12, 3) := by decide +kernel
theorem dX12_byteAt_12 : decode cX12_byteAt 12 = .ok (.aload_n 0, 1) := by decide +kernel
theorem dX12_byteAt_13 : decode cX12_byteAt 13 = .ok (.getfield 7, 3) := by decide +kernel
theorem dX12_byteAt_16 : decode cX12_byteAt 16 = .ok (.iload_n 1, 1) := by decide +kernel
theorem dX12_byteAt_17 : decode cX12_byteAt 17 = .ok (.iaload, 1) := by decide +kernel
theorem dX12_byteAt_18 : decode cX12_byteAt 18 = .ok (.goto 4, 3) := by decide +kernel
theorem dX12_byteAt_21 : decode cX12_byteAt 21 = .ok (.iconst (-1), 1) := by decide +kernel
theorem dX12_byteAt_22 : decode cX12_byteAt 22 = .ok (.ireturn, 1) := by decide +kernel
theorem dX12_isSmall_0 : decode cX12_isSmall 0 = .ok (.aload_n 0, 1) := by decide +kernel
theorem dX12_isSmall_1 : decode cX12_isSmall 1 = .ok (.iload_n 1, 1) := by decide +kernel
theorem dX12_isSmall_2 : decode cX12_isSmall 2 = .ok (.invokevirtual 228, 3) := by decide +kernel
theorem dX12_isSmall_5 : decode cX12_isSmall 5 = .ok (.bipush 97, 2) := by decide +kernel
theorem dX12_isSmall_7 : decode cX12_isSmall 7 = .ok (.if_icmp .lt 17, 3) := by decide +kernel
theorem dX12_isSmall_10 : decode cX12_isSmall 10 = .ok (.aload_n 0, 1) := by decide +kernel
theorem dX12_isSmall_11 : decode cX12_isSmall 11 = .ok (.iload_n 1, 1) := by decide +kernel
theorem dX12_isSmall_12 : decode cX12_isSmall 12 = .ok (.invokevirtual 228, 3) := by decide +kernel
theorem dX12_isSmall_15 : decode cX12_isSmall 15 = .ok (.bipush 122, 2) := by decide +kernel
theorem dX12_isSmall_17 : decode cX12_isSmall 17 = .ok (.if_icmp .gt 7, 3) := by decide +kernel
theorem dX12_isSmall_20 : decode cX12_isSmall 20 = .ok (.iconst 1, 1) := by decide +kernel
theorem dX12_isSmall_21 : decode cX12_isSmall 21 = .ok (.goto 4, 3) := by decide +kernel
theorem dX12_isSmall_24 : decode cX12_isSmall 24 = .ok (.iconst 0, 1) := by decide +kernel
theorem dX12_isSmall_25 : decode cX12_isSmall 25 = .ok (.ireturn, 1) := by decide +kernel
theorem dX12_isDigit_0 : decode cX12_isDigit 0 = .ok (.aload_n 0, 1) := by decide +kernel
theorem dX12_isDigit_1 : decode cX12_isDigit 1 = .ok (.iload_n 1, 1) := by decide +kernel
theorem dX12_isDigit_2 : decode cX12_isDigit 2 = .ok (.invokevirtual 228, 3) := by decide +kernel
theorem dX12_isDigit_5 : decode cX12_isDigit 5 = .ok (.bipush 48, 2) := by decide +kernel
theorem dX12_isDigit_7 : decode cX12_isDigit 7 = .ok (.if_icmp .lt 17, 3) := by decide +kernel
theorem dX12_isDigit_10 : decode cX12_isDigit 10 = .ok (.aload_n 0, 1) := by decide +kernel
theorem dX12_isDigit_11 : decode cX12_isDigit 11 = .ok (.iload_n 1, 1) := by decide +kernel
theorem dX12_isDigit_12 : decode cX12_isDigit 12 = .ok (.invokevirtual 228, 3) := by decide +kernel
theorem dX12_isDigit_15 : decode cX12_isDigit 15 = .ok (.bipush 57, 2) := by decide +kernel
theorem dX12_isDigit_17 : decode cX12_isDigit 17 = .ok (.if_icmp .gt 7, 3) := by decide +kernel
theorem dX12_isDigit_20 : decode cX12_isDigit 20 = .ok (.iconst 1, 1) := by decide +kernel
theorem dX12_isDigit_21 : decode cX12_isDigit 21 = .ok (.goto 4, 3) := by decide +kernel
theorem dX12_isDigit_24 : decode cX12_isDigit 24 = .ok (.iconst 0, 1) := by decide +kernel
theorem dX12_isDigit_25 : decode cX12_isDigit 25 = .ok (.ireturn, 1) := by decide +kernel
theorem dX12_here_0 : decode cX12_here 0 = .ok (.aload_n 0, 1) := by decide +kernel
theorem dX12_here_1 : decode cX12_here 1 = .ok (.aload_n 0, 1) := by decide +kernel
theorem dX12_here_2 : decode cX12_here 2 = .ok (.getfield 29, 3) := by decide +kernel
theorem dX12_here_5 : decode cX12_here 5 = .ok (.invokevirtual 228, 3) := by decide +kernel
theorem dX12_here_8 : decode cX12_here 8 = .ok (.bipush 10, 2) := by decide +kernel
theorem dX12_here_10 : decode cX12_here 10 = .ok (.if_icmp .eq 16, 3) := by decide +kernel
theorem dX12_here_13 : decode cX12_here 13 = .ok (.aload_n 0, 1) := by decide +kernel
theorem dX12_here_14 : decode cX12_here 14 = .ok (.aload_n 0, 1) := by decide +kernel
theorem dX12_here_15 : decode cX12_here 15 = .ok (.getfield 29, 3) := by decide +kernel
theorem dX12_here_18 : decode cX12_here 18 = .ok (.invokevirtual 228, 3) := by decide +kernel
theorem dX12_here_21 : decode cX12_here 21 = .ok (.bipush 32, 2) := by decide +kernel
theorem dX12_here_23 : decode cX12_here 23 = .ok (.if_icmp .ne 16, 3) := by decide +kernel
theorem dX12_here_26 : decode cX12_here 26 = .ok (.aload_n 0, 1) := by decide +kernel
theorem dX12_here_27 : decode cX12_here 27 = .ok (.dup, 1) := by decide +kernel
theorem dX12_here_28 : decode cX12_here 28 = .ok (.getfield 29, 3) := by decide +kernel
theorem dX12_here_31 : decode cX12_here 31 = .ok (.iconst 1, 1) := by decide +kernel
theorem dX12_here_32 : decode cX12_here 32 = .ok (.iadd, 1) := by decide +kernel
theorem dX12_here_33 : decode cX12_here 33 = .ok (.putfield 29, 3) := by decide +kernel
theorem dX12_here_36 : decode cX12_here 36 = .ok (.goto (-36), 3) := by decide +kernel
theorem dX12_here_39 : decode cX12_here 39 = .ok (.aload_n 0, 1) := by decide +kernel
theorem dX12_here_40 : decode cX12_here 40 = .ok (.aload_n 0, 1) := by decide +kernel
theorem dX12_here_41 : decode cX12_here 41 = .ok (.getfield 29, 3) := by decide +kernel
theorem dX12_here_44 : decode cX12_here 44 = .ok (.invokevirtual 228, 3) := by decide +kernel
theorem dX12_here_47 : decode cX12_here 47 = .ok (.ireturn, 1) := by decide +kernel
theorem dX12_faults_0 : decode cX12_faults 0 = .ok (.aload_n 0, 1) := by decide +kernel
theorem dX12_faults_1 : decode cX12_faults 1 = .ok (.getfield 35, 3) := by decide +kernel
theorem dX12_faults_4 : decode cX12_faults 4 = .ok (.ifCond .eq 4, 3) := by decide +kernel
theorem dX12_faults_7 : decode cX12_faults 7 = .ok (.return_, 1) := by decide +kernel
theorem dX12_faults_8 : decode cX12_faults 8 = .ok (.aload_n 0, 1) := by decide +kernel
theorem dX12_faults_9 : decode cX12_faults 9 = .ok (.iload_n 1, 1) := by decide +kernel
theorem dX12_faults_10 : decode cX12_faults 10 = .ok (.putfield 35, 3) := by decide +kernel
theorem dX12_faults_13 : decode cX12_faults 13 = .ok (.aload_n 0, 1) := by decide +kernel
theorem dX12_faults_14 : decode cX12_faults 14 = .ok (.iload_n 2, 1) := by decide +kernel
theorem dX12_faults_15 : decode cX12_faults 15 = .ok (.putfield 38, 3) := by decide +kernel
theorem dX12_faults_18 : decode cX12_faults 18 = .ok (.return_, 1) := by decide +kernel
theorem dX12_goesWell_0 : decode cX12_goesWell 0 = .ok (.aload_n 0, 1) := by decide +kernel
theorem dX12_goesWell_1 : decode cX12_goesWell 1 = .ok (.getfield 35, 3) := by decide +kernel
theorem dX12_goesWell_4 : decode cX12_goesWell 4 = .ok (.ifCond .ne 7, 3) := by decide +kernel
theorem dX12_goesWell_7 : decode cX12_goesWell 7 = .ok (.iconst 1, 1) := by decide +kernel
theorem dX12_goesWell_8 : decode cX12_goesWell 8 = .ok (.goto 4, 3) := by decide +kernel
theorem dX12_goesWell_11 : decode cX12_goesWell 11 = .ok (.iconst 0, 1) := by decide +kernel
theorem dX12_goesWell_12 : decode cX12_goesWell 12 = .ok (.ireturn, 1) := by decide +kernel
theorem dX12_mark_0 : decode cX12_mark 0 = .ok (.aload_n 0, 1) := by decide +kernel
theorem dX12_mark_1 : decode cX12_mark 1 = .ok (.invokevirtual 231, 3) := by decide +kernel
theorem dX12_mark_4 : decode cX12_mark 4 = .ok (.ifCond .ne 4, 3) := by decide +kernel
theorem dX12_mark_7 : decode cX12_mark 7 = .ok (.return_, 1) := by decide +kernel
theorem dX12_mark_8 : decode cX12_mark 8 = .ok (.aload_n 0, 1) := by decide +kernel
theorem dX12_mark_9 : decode cX12_mark 9 = .ok (.invokevirtual 235, 3) := by decide +kernel
theorem dX12_mark_12 : decode cX12_mark 12 = .ok (.iload_n 1, 1) := by decide +kernel
theorem dX12_mark_13 : decode cX12_mark 13 = .ok (.if_icmp .ne 16, 3) := by decide +kernel
theorem dX12_mark_16 : decode cX12_mark 16 = .ok (.aload_n 0, 1) := by decide +kernel
theorem dX12_mark_17 : decode cX12_mark 17 = .ok (.dup, 1) := by decide +kernel
theorem dX12_mark_18 : decode cX12_mark 18 = .ok (.getfield 29, 3) := by decide +kernel
theorem dX12_mark_21 : decode cX12_mark 21 = .ok (.iconst 1, 1) := by decide +kernel
theorem dX12_mark_22 : decode cX12_mark 22 = .ok (.iadd, 1) := by decide +kernel
theorem dX12_mark_23 : decode cX12_mark 23 = .ok (.putfield 29, 3) := by decide +kernel
theorem dX12_mark_26 : decode cX12_mark 26 = .ok (.goto 12, 3) := by decide +kernel
theorem dX12_mark_29 : decode cX12_mark 29 = .ok (.aload_n 0, 1) := by decide +kernel
theorem dX12_mark_30 : decode cX12_mark 30 = .ok (.iconst 1, 1) := by decide +kernel
theorem dX12_mark_31 : decode cX12_mark 31 = .ok (.aload_n 0, 1) := by decide +kernel
theorem dX12_mark_32 : decode cX12_mark 32 = .ok (.getfield 29, 3) := by decide +kernel
theorem dX12_mark_35 : decode cX12_mark 35 = .ok (.invokevirtual 239, 3) := by decide +kernel
theorem dX12_mark_38 : decode cX12_mark 38 = .ok (.return_, 1) := by decide +kernel
theorem dX12_own_0 : decode cX12_own 0 = .ok (.iconst 0, 1) := by decide +kernel
theorem dX12_own_1 : decode cX12_own 1 = .ok (.istore_n 1, 1) := by decide +kernel
theorem dX12_own_2 : decode cX12_own 2 = .ok (.iconst 0, 1) := by decide +kernel
theorem dX12_own_3 : decode cX12_own 3 = .ok (.istore_n 2, 1) := by decide +kernel
theorem dX12_own_4 : decode cX12_own 4 = .ok (.iload_n 2, 1) := by decide +kernel
theorem dX12_own_5 : decode cX12_own 5 = .ok (.bipush 12, 2) := by decide +kernel
theorem dX12_own_7 : decode cX12_own 7 = .ok (.if_icmp .gt 110, 3) := by decide +kernel
theorem dX12_own_10 : decode cX12_own 10 = .ok (.iconst 0, 1) := by decide +kernel
theorem dX12_own_11 : decode cX12_own 11 = .ok (.istore_n 3, 1) := by decide +kernel
theorem dX12_own_12 : decode cX12_own 12 = .ok (.aload_n 0, 1) := by decide +kernel
theorem dX12_own_13 : decode cX12_own 13 = .ok (.getfield 41, 3) := by decide +kernel
theorem dX12_own_16 : decode cX12_own 16 = .ok (.iload_n 1, 1) := by decide +kernel
theorem dX12_own_17 : decode cX12_own 17 = .ok (.iload_n 3, 1) := by decide +kernel
theorem dX12_own_18 : decode cX12_own 18 = .ok (.iadd, 1) := by decide +kernel
theorem dX12_own_19 : decode cX12_own 19 = .ok (.iaload, 1) := by decide +kernel
theorem dX12_own_20 : decode cX12_own 20 = .ok (.ifCond .eq 47, 3) := by decide +kernel
theorem dX12_own_23 : decode cX12_own 23 = .ok (.aload_n 0, 1) := by decide +kernel
theorem dX12_own_24 : decode cX12_own 24 = .ok (.getfield 32, 3) := by decide +kernel
theorem dX12_own_27 : decode cX12_own 27 = .ok (.iload_n 3, 1) := by decide +kernel
theorem dX12_own_28 : decode cX12_own 28 = .ok (.iadd, 1) := by decide +kernel
theorem dX12_own_29 : decode cX12_own 29 = .ok (.aload_n 0, 1) := by decide +kernel
theorem dX12_own_30 : decode cX12_own 30 = .ok (.getfield 29, 3) := by decide +kernel
theorem dX12_own_33 : decode cX12_own 33 = .ok (.if_icmp .ge 34, 3) := by decide +kernel
theorem dX12_own_36 : decode cX12_own 36 = .ok (.aload_n 0, 1) := by decide +kernel
theorem dX12_own_37 : decode cX12_own 37 = .ok (.getfield 7, 3) := by decide +kernel
theorem dX12_own_40 : decode cX12_own 40 = .ok (.aload_n 0, 1) := by decide +kernel
theorem dX12_own_41 : decode cX12_own 41 = .ok (.getfield 32, 3) := by decide +kernel
theorem dX12_own_44 : decode cX12_own 44 = .ok (.iload_n 3, 1) := by decide +kernel
theorem dX12_own_45 : decode cX12_own 45 = .ok (.iadd, 1) := by decide +kernel
theorem dX12_own_46 : decode cX12_own 46 = .ok (.iaload, 1) := by decide +kernel
theorem dX12_own_47 : decode cX12_own 47 = .ok (.bipush 96, 2) := by decide +kernel
theorem dX12_own_49 : decode cX12_own 49 = .ok (.isub, 1) := by decide +kernel
theorem dX12_own_50 : decode cX12_own 50 = .ok (.aload_n 0, 1) := by decide +kernel
theorem dX12_own_51 : decode cX12_own 51 = .ok (.getfield 41, 3) := by decide +kernel
theorem dX12_own_54 : decode cX12_own 54 = .ok (.iload_n 1, 1) := by decide +kernel
theorem dX12_own_55 : decode cX12_own 55 = .ok (.iload_n 3, 1) := by decide +kernel
theorem dX12_own_56 : decode cX12_own 56 = .ok (.iadd, 1) := by decide +kernel
theorem dX12_own_57 : decode cX12_own 57 = .ok (.iaload, 1) := by decide +kernel
theorem dX12_own_58 : decode cX12_own 58 = .ok (.if_icmp .ne 9, 3) := by decide +kernel
theorem dX12_own_61 : decode cX12_own 61 = .ok (.iinc 3 1, 3) := by decide +kernel
theorem dX12_own_64 : decode cX12_own 64 = .ok (.goto (-52), 3) := by decide +kernel
theorem dX12_own_67 : decode cX12_own 67 = .ok (.aload_n 0, 1) := by decide +kernel
theorem dX12_own_68 : decode cX12_own 68 = .ok (.getfield 41, 3) := by decide +kernel
theorem dX12_own_71 : decode cX12_own 71 = .ok (.iload_n 1, 1) := by decide +kernel
theorem dX12_own_72 : decode cX12_own 72 = .ok (.iload_n 3, 1) := by decide +kernel
theorem dX12_own_73 : decode cX12_own 73 = .ok (.iadd, 1) := by decide +kernel
theorem dX12_own_74 : decode cX12_own 74 = .ok (.iaload, 1) := by decide +kernel
theorem dX12_own_75 : decode cX12_own 75 = .ok (.ifCond .ne 18, 3) := by decide +kernel
theorem dX12_own_78 : decode cX12_own 78 = .ok (.aload_n 0, 1) := by decide +kernel
theorem dX12_own_79 : decode cX12_own 79 = .ok (.getfield 32, 3) := by decide +kernel
theorem dX12_own_82 : decode cX12_own 82 = .ok (.iload_n 3, 1) := by decide +kernel
theorem dX12_own_83 : decode cX12_own 83 = .ok (.iadd, 1) := by decide +kernel
theorem dX12_own_84 : decode cX12_own 84 = .ok (.aload_n 0, 1) := by decide +kernel
theorem dX12_own_85 : decode cX12_own 85 = .ok (.getfield 29, 3) := by decide +kernel
theorem dX12_own_88 : decode cX12_own 88 = .ok (.if_icmp .ne 5, 3) := by decide +kernel
theorem dX12_own_91 : decode cX12_own 91 = .ok (.iload_n 2, 1) := by decide +kernel
theorem dX12_own_92 : decode cX12_own 92 = .ok (.ireturn, 1) := by decide +kernel
theorem dX12_own_93 : decode cX12_own 93 = .ok (.aload_n 0, 1) := by decide +kernel
theorem dX12_own_94 : decode cX12_own 94 = .ok (.getfield 41, 3) := by decide +kernel
theorem dX12_own_97 : decode cX12_own 97 = .ok (.iload_n 1, 1) := by decide +kernel
theorem dX12_own_98 : decode cX12_own 98 = .ok (.iaload, 1) := by decide +kernel
theorem dX12_own_99 : decode cX12_own 99 = .ok (.ifCond .eq 9, 3) := by decide +kernel
theorem dX12_own_102 : decode cX12_own 102 = .ok (.iinc 1 1, 3) := by decide +kernel
theorem dX12_own_105 : decode cX12_own 105 = .ok (.goto (-12), 3) := by decide +kernel
theorem dX12_own_108 : decode cX12_own 108 = .ok (.iinc 1 1, 3) := by decide +kernel
theorem dX12_own_111 : decode cX12_own 111 = .ok (.iinc 2 1, 3) := by decide +kernel
theorem dX12_own_114 : decode cX12_own 114 = .ok (.goto (-110), 3) := by decide +kernel
theorem dX12_own_117 : decode cX12_own 117 = .ok (.iconst (-1), 1) := by decide +kernel
theorem dX12_own_118 : decode cX12_own 118 = .ok (.ireturn, 1) := by decide +kernel
theorem dX12_word_0 : decode cX12_word 0 = .ok (.aload_n 0, 1) := by decide +kernel
theorem dX12_word_1 : decode cX12_word 1 = .ok (.invokevirtual 231, 3) := by decide +kernel
theorem dX12_word_4 : decode cX12_word 4 = .ok (.ifCond .ne 4, 3) := by decide +kernel
theorem dX12_word_7 : decode cX12_word 7 = .ok (.return_, 1) := by decide +kernel
theorem dX12_word_8 : decode cX12_word 8 = .ok (.aload_n 0, 1) := by decide +kernel
theorem dX12_word_9 : decode cX12_word 9 = .ok (.invokevirtual 235, 3) := by decide +kernel
theorem dX12_word_12 : decode cX12_word 12 = .ok (.pop, 1) := by decide +kernel
theorem dX12_word_13 : decode cX12_word 13 = .ok (.aload_n 0, 1) := by decide +kernel
theorem dX12_word_14 : decode cX12_word 14 = .ok (.aload_n 0, 1) := by decide +kernel
theorem dX12_word_15 : decode cX12_word 15 = .ok (.getfield 29, 3) := by decide +kernel
theorem dX12_word_18 : decode cX12_word 18 = .ok (.putfield 32, 3) := by decide +kernel
theorem dX12_word_21 : decode cX12_word 21 = .ok (.aload_n 0, 1) := by decide +kernel
theorem dX12_word_22 : decode cX12_word 22 = .ok (.aload_n 0, 1) := by decide +kernel
theorem dX12_word_23 : decode cX12_word 23 = .ok (.getfield 29, 3) := by decide +kernel
theorem dX12_word_26 : decode cX12_word 26 = .ok (.invokevirtual 243, 3) := by decide +kernel
theorem dX12_word_29 : decode cX12_word 29 = .ok (.ifCond .eq 29, 3) := by decide +kernel
theorem dX12_word_32 : decode cX12_word 32 = .ok (.aload_n 0, 1) := by decide +kernel
theorem dX12_word_33 : decode cX12_word 33 = .ok (.aload_n 0, 1) := by decide +kernel
theorem dX12_word_34 : decode cX12_word 34 = .ok (.getfield 29, 3) := by decide +kernel
theorem dX12_word_37 : decode cX12_word 37 = .ok (.iconst 1, 1) := by decide +kernel
theorem dX12_word_38 : decode cX12_word 38 = .ok (.isub, 1) := by decide +kernel
theorem dX12_word_39 : decode cX12_word 39 = .ok (.invokevirtual 243, 3) := by decide +kernel
theorem dX12_word_42 : decode cX12_word 42 = .ok (.ifCond .ne 16, 3) := by decide +kernel
theorem dX12_word_45 : decode cX12_word 45 = .ok (.aload_n 0, 1) := by decide +kernel
theorem dX12_word_46 : decode cX12_word 46 = .ok (.aload_n 0, 1) := by decide +kernel
theorem dX12_word_47 : decode cX12_word 47 = .ok (.getfield 29, 3) := by decide +kernel
theorem dX12_word_50 : decode cX12_word 50 = .ok (.iconst 1, 1) := by decide +kernel
theorem dX12_word_51 : decode cX12_word 51 = .ok (.isub, 1) := by decide +kernel
theorem dX12_word_52 : decode cX12_word 52 = .ok (.invokevirtual 246, 3) := by decide +kernel
theorem dX12_word_55 : decode cX12_word 55 = .ok (.ifCond .eq 13, 3) := by decide +kernel
theorem dX12_word_58 : decode cX12_word 58 = .ok (.aload_n 0, 1) := by decide +kernel
theorem dX12_word_59 : decode cX12_word 59 = .ok (.iconst 1, 1) := by decide +kernel
theorem dX12_word_60 : decode cX12_word 60 = .ok (.aload_n 0, 1) := by decide +kernel
theorem dX12_word_61 : decode cX12_word 61 = .ok (.getfield 29, 3) := by decide +kernel
theorem dX12_word_64 : decode cX12_word 64 = .ok (.invokevirtual 239, 3) := by decide +kernel
theorem dX12_word_67 : decode cX12_word 67 = .ok (.return_, 1) := by decide +kernel
theorem dX12_word_68 : decode cX12_word 68 = .ok (.aload_n 0, 1) := by decide +kernel
theorem dX12_word_69 : decode cX12_word 69 = .ok (.aload_n 0, 1) := by decide +kernel
theorem dX12_word_70 : decode cX12_word 70 = .ok (.getfield 29, 3) := by decide +kernel
theorem dX12_word_73 : decode cX12_word 73 = .ok (.invokevirtual 243, 3) := by decide +kernel
theorem dX12_word_76 : decode cX12_word 76 = .ok (.ifCond .eq 16, 3) := by decide +kernel
theorem dX12_word_79 : decode cX12_word 79 = .ok (.aload_n 0, 1) := by decide +kernel
theorem dX12_word_80 : decode cX12_word 80 = .ok (.dup, 1) := by decide +kernel
theorem dX12_word_81 : decode cX12_word 81 = .ok (.getfield 29, 3) := by decide +kernel
theorem dX12_word_84 : decode cX12_word 84 = .ok (.iconst 1, 1) := by decide +kernel
theorem dX12_word_85 : decode cX12_word 85 = .ok (.iadd, 1) := by decide +kernel
theorem dX12_word_86 : decode cX12_word 86 = .ok (.putfield 29, 3) := by decide +kernel
theorem dX12_word_89 : decode cX12_word 89 = .ok (.goto (-21), 3) := by decide +kernel
theorem dX12_word_92 : decode cX12_word 92 = .ok (.return_, 1) := by decide +kernel
theorem dX12_must_0 : decode cX12_must 0 = .ok (.aload_n 0, 1) := by decide +kernel
theorem dX12_must_1 : decode cX12_must 1 = .ok (.invokevirtual 249, 3) := by decide +kernel
theorem dX12_must_4 : decode cX12_must 4 = .ok (.aload_n 0, 1) := by decide +kernel
theorem dX12_must_5 : decode cX12_must 5 = .ok (.invokevirtual 231, 3) := by decide +kernel
theorem dX12_must_8 : decode cX12_must 8 = .ok (.ifCond .eq 20, 3) := by decide +kernel
theorem dX12_must_11 : decode cX12_must 11 = .ok (.aload_n 0, 1) := by decide +kernel
theorem dX12_must_12 : decode cX12_must 12 = .ok (.invokevirtual 252, 3) := by decide +kernel
theorem dX12_must_15 : decode cX12_must 15 = .ok (.iload_n 1, 1) := by decide +kernel
theorem dX12_must_16 : decode cX12_must 16 = .ok (.if_icmp .eq 12, 3) := by decide +kernel
theorem dX12_must_19 : decode cX12_must 19 = .ok (.aload_n 0, 1) := by decide +kernel
theorem dX12_must_20 : decode cX12_must 20 = .ok (.iconst 1, 1) := by decide +kernel
theorem dX12_must_21 : decode cX12_must 21 = .ok (.aload_n 0, 1) := by decide +kernel
theorem dX12_must_22 : decode cX12_must 22 = .ok (.getfield 32, 3) := by decide +kernel
theorem dX12_must_25 : decode cX12_must 25 = .ok (.invokevirtual 239, 3) := by decide +kernel
theorem dX12_must_28 : decode cX12_must 28 = .ok (.return_, 1) := by decide +kernel
theorem dX12_name_0 : decode cX12_name 0 = .ok (.aload_n 0, 1) := by decide +kernel
theorem dX12_name_1 : decode cX12_name 1 = .ok (.invokevirtual 249, 3) := by decide +kernel
theorem dX12_name_4 : decode cX12_name 4 = .ok (.aload_n 0, 1) := by decide +kernel
theorem dX12_name_5 : decode cX12_name 5 = .ok (.invokevirtual 231, 3) := by decide +kernel
theorem dX12_name_8 : decode cX12_name 8 = .ok (.ifCond .eq 34, 3) := by decide +kernel
theorem dX12_name_11 : decode cX12_name 11 = .ok (.aload_n 0, 1) := by decide +kernel
theorem dX12_name_12 : decode cX12_name 12 = .ok (.invokevirtual 252, 3) := by decide +kernel
theorem dX12_name_15 : decode cX12_name 15 = .ok (.iconst (-1), 1) := by decide +kernel
theorem dX12_name_16 : decode cX12_name 16 = .ok (.if_icmp .ne 17, 3) := by decide +kernel
theorem dX12_name_19 : decode cX12_name 19 = .ok (.aload_n 0, 1) := by decide +kernel
theorem dX12_name_20 : decode cX12_name 20 = .ok (.getfield 29, 3) := by decide +kernel
theorem dX12_name_23 : decode cX12_name 23 = .ok (.aload_n 0, 1) := by decide +kernel
theorem dX12_name_24 : decode cX12_name 24 = .ok (.getfield 32, 3) := by decide +kernel
theorem dX12_name_27 : decode cX12_name 27 = .ok (.isub, 1) := by decide +kernel
theorem dX12_name_28 : decode cX12_name 28 = .ok (.bipush 6, 2) := by decide +kernel
theorem dX12_name_30 : decode cX12_name 30 = .ok (.if_icmp .le 12, 3) := by decide +kernel
theorem dX12_name_33 : decode cX12_name 33 = .ok (.aload_n 0, 1) := by decide +kernel
theorem dX12_name_34 : decode cX12_name 34 = .ok (.iconst 1, 1) := by decide +kernel
theorem dX12_name_35 : decode cX12_name 35 = .ok (.aload_n 0, 1) := by decide +kernel
theorem dX12_name_36 : decode cX12_name 36 = .ok (.getfield 32, 3) := by decide +kernel
theorem dX12_name_39 : decode cX12_name 39 = .ok (.invokevirtual 239, 3) := by decide +kernel
theorem dX12_name_42 : decode cX12_name 42 = .ok (.iconst 0, 1) := by decide +kernel
theorem dX12_name_43 : decode cX12_name 43 = .ok (.istore_n 1, 1) := by decide +kernel
theorem dX12_name_44 : decode cX12_name 44 = .ok (.aload_n 0, 1) := by decide +kernel
theorem dX12_name_45 : decode cX12_name 45 = .ok (.getfield 29, 3) := by decide +kernel
theorem dX12_name_48 : decode cX12_name 48 = .ok (.iconst 1, 1) := by decide +kernel
theorem dX12_name_49 : decode cX12_name 49 = .ok (.isub, 1) := by decide +kernel
theorem dX12_name_50 : decode cX12_name 50 = .ok (.istore_n 2, 1) := by decide +kernel
theorem dX12_name_51 : decode cX12_name 51 = .ok (.iload_n 2, 1) := by decide +kernel
theorem dX12_name_52 : decode cX12_name 52 = .ok (.aload_n 0, 1) := by decide +kernel
theorem dX12_name_53 : decode cX12_name 53 = .ok (.getfield 32, 3) := by decide +kernel
theorem dX12_name_56 : decode cX12_name 56 = .ok (.if_icmp .lt 31, 3) := by decide +kernel
theorem dX12_name_59 : decode cX12_name 59 = .ok (.aload_n 0, 1) := by decide +kernel
theorem dX12_name_60 : decode cX12_name 60 = .ok (.invokevirtual 231, 3) := by decide +kernel
theorem dX12_name_63 : decode cX12_name 63 = .ok (.ifCond .eq 24, 3) := by decide +kernel
theorem dX12_name_66 : decode cX12_name 66 = .ok (.bipush 32, 2) := by decide +kernel
theorem dX12_name_68 : decode cX12_name 68 = .ok (.iload_n 1, 1) := by decide +kernel
theorem dX12_name_69 : decode cX12_name 69 = .ok (.imul, 1) := by decide +kernel
theorem dX12_name_70 : decode cX12_name 70 = .ok (.aload_n 0, 1) := by decide +kernel
theorem dX12_name_71 : decode cX12_name 71 = .ok (.getfield 7, 3) := by decide +kernel
theorem dX12_name_74 : decode cX12_name 74 = .ok (.iload_n 2, 1) := by decide +kernel
theorem dX12_name_75 : decode cX12_name 75 = .ok (.iaload, 1) := by decide +kernel
theorem dX12_name_76 : decode cX12_name 76 = .ok (.iadd, 1) := by decide +kernel
theorem dX12_name_77 : decode cX12_name 77 = .ok (.bipush 96, 2) := by decide +kernel
theorem dX12_name_79 : decode cX12_name 79 = .ok (.isub, 1) := by decide +kernel
theorem dX12_name_80 : decode cX12_name 80 = .ok (.istore_n 1, 1) := by decide +kernel
theorem dX12_name_81 : decode cX12_name 81 = .ok (.iinc 2 (-1), 3) := by decide +kernel
theorem dX12_name_84 : decode cX12_name 84 = .ok (.goto (-33), 3) := by decide +kernel
theorem dX12_name_87 : decode cX12_name 87 = .ok (.aload_n 0, 1) := by decide +kernel
theorem dX12_name_88 : decode cX12_name 88 = .ok (.invokevirtual 231, 3) := by decide +kernel
theorem dX12_name_91 : decode cX12_name 91 = .ok (.ifCond .eq 7, 3) := by decide +kernel
theorem dX12_name_94 : decode cX12_name 94 = .ok (.iload_n 1, 1) := by decide +kernel
theorem dX12_name_95 : decode cX12_name 95 = .ok (.goto 4, 3) := by decide +kernel
theorem dX12_name_98 : decode cX12_name 98 = .ok (.iconst 0, 1) := by decide +kernel
theorem dX12_name_99 : decode cX12_name 99 = .ok (.ireturn, 1) := by decide +kernel
theorem dX12_digits_0 : decode cX12_digits 0 = .ok (.aload_n 0, 1) := by decide +kernel
theorem dX12_digits_1 : decode cX12_digits 1 = .ok (.invokevirtual 231, 3) := by decide +kernel
theorem dX12_digits_4 : decode cX12_digits 4 = .ok (.ifCond .ne 5, 3) := by decide +kernel
theorem dX12_digits_7 : decode cX12_digits 7 = .ok (.lconst 0, 1) := by decide +kernel
theorem dX12_digits_8 : decode cX12_digits 8 = .ok (.lreturn, 1) := by decide +kernel
theorem dX12_digits_9 : decode cX12_digits 9 = .ok (.aload_n 0, 1) := by decide +kernel
theorem dX12_digits_10 : decode cX12_digits 10 = .ok (.invokevirtual 235, 3) := by decide +kernel
theorem dX12_digits_13 : decode cX12_digits 13 = .ok (.pop, 1) := by decide +kernel
theorem dX12_digits_14 : decode cX12_digits 14 = .ok (.aload_n 0, 1) := by decide +kernel
theorem dX12_digits_15 : decode cX12_digits 15 = .ok (.aload_n 0, 1) := by decide +kernel
theorem dX12_digits_16 : decode cX12_digits 16 = .ok (.getfield 29, 3) := by decide +kernel
theorem dX12_digits_19 : decode cX12_digits 19 = .ok (.putfield 32, 3) := by decide +kernel
theorem dX12_digits_22 : decode cX12_digits 22 = .ok (.aload_n 0, 1) := by decide +kernel
theorem dX12_digits_23 : decode cX12_digits 23 = .ok (.aload_n 0, 1) := by decide +kernel
theorem dX12_digits_24 : decode cX12_digits 24 = .ok (.getfield 29, 3) := by decide +kernel
theorem dX12_digits_27 : decode cX12_digits 27 = .ok (.invokevirtual 246, 3) := by decide +kernel
theorem dX12_digits_30 : decode cX12_digits 30 = .ok (.ifCond .eq 29, 3) := by decide +kernel
theorem dX12_digits_33 : decode cX12_digits 33 = .ok (.aload_n 0, 1) := by decide +kernel
theorem dX12_digits_34 : decode cX12_digits 34 = .ok (.aload_n 0, 1) := by decide +kernel
theorem dX12_digits_35 : decode cX12_digits 35 = .ok (.getfield 29, 3) := by decide +kernel
theorem dX12_digits_38 : decode cX12_digits 38 = .ok (.iconst 1, 1) := by decide +kernel
theorem dX12_digits_39 : decode cX12_digits 39 = .ok (.isub, 1) := by decide +kernel
theorem dX12_digits_40 : decode cX12_digits 40 = .ok (.invokevirtual 243, 3) := by decide +kernel
theorem dX12_digits_43 : decode cX12_digits 43 = .ok (.ifCond .ne 16, 3) := by decide +kernel
theorem dX12_digits_46 : decode cX12_digits 46 = .ok (.aload_n 0, 1) := by decide +kernel
theorem dX12_digits_47 : decode cX12_digits 47 = .ok (.aload_n 0, 1) := by decide +kernel
theorem dX12_digits_48 : decode cX12_digits 48 = .ok (.getfield 29, 3) := by decide +kernel
theorem dX12_digits_51 : decode cX12_digits 51 = .ok (.iconst 1, 1) := by decide +kernel
theorem dX12_digits_52 : decode cX12_digits 52 = .ok (.isub, 1) := by decide +kernel
theorem dX12_digits_53 : decode cX12_digits 53 = .ok (.invokevirtual 246, 3) := by decide +kernel
theorem dX12_digits_56 : decode cX12_digits 56 = .ok (.ifCond .eq 14, 3) := by decide +kernel
theorem dX12_digits_59 : decode cX12_digits 59 = .ok (.aload_n 0, 1) := by decide +kernel
theorem dX12_digits_60 : decode cX12_digits 60 = .ok (.iconst 1, 1) := by decide +kernel
theorem dX12_digits_61 : decode cX12_digits 61 = .ok (.aload_n 0, 1) := by decide +kernel
theorem dX12_digits_62 : decode cX12_digits 62 = .ok (.getfield 29, 3) := by decide +kernel
theorem dX12_digits_65 : decode cX12_digits 65 = .ok (.invokevirtual 239, 3) := by decide +kernel
theorem dX12_digits_68 : decode cX12_digits 68 = .ok (.lconst 0, 1) := by decide +kernel
theorem dX12_digits_69 : decode cX12_digits 69 = .ok (.lreturn, 1) := by decide +kernel
theorem dX12_digits_70 : decode cX12_digits 70 = .ok (.lconst 0, 1) := by decide +kernel
theorem dX12_digits_71 : decode cX12_digits 71 = .ok (.lstore_n 1, 1) := by decide +kernel
theorem dX12_digits_72 : decode cX12_digits 72 = .ok (.aload_n 0, 1) := by decide +kernel
theorem dX12_digits_73 : decode cX12_digits 73 = .ok (.aload_n 0, 1) := by decide +kernel
theorem dX12_digits_74 : decode cX12_digits 74 = .ok (.getfield 29, 3) := by decide +kernel
theorem dX12_digits_77 : decode cX12_digits 77 = .ok (.invokevirtual 246, 3) := by decide +kernel
theorem dX12_digits_80 : decode cX12_digits 80 = .ok (.ifCond .eq 54, 3) := by decide +kernel
theorem dX12_digits_83 : decode cX12_digits 83 = .ok (.aload_n 0, 1) := by decide +kernel
theorem dX12_digits_84 : decode cX12_digits 84 = .ok (.getfield 29, 3) := by decide +kernel
theorem dX12_digits_87 : decode cX12_digits 87 = .ok (.aload_n 0, 1) := by decide +kernel
theorem dX12_digits_88 : decode cX12_digits 88 = .ok (.getfield 32, 3) := by decide +kernel
theorem dX12_digits_91 : decode cX12_digits 91 = .ok (.isub, 1) := by decide +kernel
theorem dX12_digits_92 : decode cX12_digits 92 = .ok (.bipush 8, 2) := by decide +kernel
theorem dX12_digits_94 : decode cX12_digits 94 = .ok (.if_icmp .ge 25, 3) := by decide +kernel
theorem dX12_digits_97 : decode cX12_digits 97 = .ok (.ldc2_w 255, 3) := by decide +kernel
theorem dX12_digits_100 : decode cX12_digits 100 = .ok (.lload_n 1, 1) := by decide +kernel
theorem dX12_digits_101 : decode cX12_digits 101 = .ok (.lmul, 1) := by decide +kernel
theorem dX12_digits_102 : decode cX12_digits 102 = .ok (.aload_n 0, 1) := by decide +kernel
theorem dX12_digits_103 : decode cX12_digits 103 = .ok (.aload_n 0, 1) := by decide +kernel
theorem dX12_digits_104 : decode cX12_digits 104 = .ok (.getfield 29, 3) := by decide +kernel
theorem dX12_digits_107 : decode cX12_digits 107 = .ok (.invokevirtual 228, 3) := by decide +kernel
theorem dX12_digits_110 : decode cX12_digits 110 = .ok (.i2l, 1) := by decide +kernel
theorem dX12_digits_111 : decode cX12_digits 111 = .ok (.ladd, 1) := by decide +kernel
theorem dX12_digits_112 : decode cX12_digits 112 = .ok (.ldc2_w 257, 3) := by decide +kernel
theorem dX12_digits_115 : decode cX12_digits 115 = .ok (.lsub, 1) := by decide +kernel
theorem dX12_digits_116 : decode cX12_digits 116 = .ok (.goto 4, 3) := by decide +kernel
theorem dX12_digits_119 : decode cX12_digits 119 = .ok (.lload_n 1, 1) := by decide +kernel
theorem dX12_digits_120 : decode cX12_digits 120 = .ok (.lstore_n 1, 1) := by decide +kernel
theorem dX12_digits_121 : decode cX12_digits 121 = .ok (.aload_n 0, 1) := by decide +kernel
theorem dX12_digits_122 : decode cX12_digits 122 = .ok (.dup, 1) := by decide +kernel
theorem dX12_digits_123 : decode cX12_digits 123 = .ok (.getfield 29, 3) := by decide +kernel
theorem dX12_digits_126 : decode cX12_digits 126 = .ok (.iconst 1, 1) := by decide +kernel
theorem dX12_digits_127 : decode cX12_digits 127 = .ok (.iadd, 1) := by decide +kernel
theorem dX12_digits_128 : decode cX12_digits 128 = .ok (.putfield 29, 3) := by decide +kernel
theorem dX12_digits_131 : decode cX12_digits 131 = .ok (.goto (-59), 3) := by decide +kernel
theorem dX12_digits_134 : decode cX12_digits 134 = .ok (.aload_n 0, 1) := by decide +kernel
theorem dX12_digits_135 : decode cX12_digits 135 = .ok (.getfield 29, 3) := by decide +kernel
theorem dX12_digits_138 : decode cX12_digits 138 = .ok (.aload_n 0, 1) := by decide +kernel
theorem dX12_digits_139 : decode cX12_digits 139 = .ok (.getfield 32, 3) := by decide +kernel
theorem dX12_digits_142 : decode cX12_digits 142 = .ok (.isub, 1) := by decide +kernel
theorem dX12_digits_143 : decode cX12_digits 143 = .ok (.bipush 8, 2) := by decide +kernel
theorem dX12_digits_145 : decode cX12_digits 145 = .ok (.if_icmp .le 12, 3) := by decide +kernel
theorem dX12_digits_148 : decode cX12_digits 148 = .ok (.aload_n 0, 1) := by decide +kernel
theorem dX12_digits_149 : decode cX12_digits 149 = .ok (.iconst 1, 1) := by decide +kernel
theorem dX12_digits_150 : decode cX12_digits 150 = .ok (.aload_n 0, 1) := by decide +kernel
theorem dX12_digits_151 : decode cX12_digits 151 = .ok (.getfield 32, 3) := by decide +kernel
theorem dX12_digits_154 : decode cX12_digits 154 = .ok (.invokevirtual 239, 3) := by decide +kernel
theorem dX12_digits_157 : decode cX12_digits 157 = .ok (.aload_n 0, 1) := by decide +kernel
theorem dX12_digits_158 : decode cX12_digits 158 = .ok (.invokevirtual 231, 3) := by decide +kernel
theorem dX12_digits_161 : decode cX12_digits 161 = .ok (.ifCond .eq 7, 3) := by decide +kernel
theorem dX12_digits_164 : decode cX12_digits 164 = .ok (.lload_n 1, 1) := by decide +kernel
theorem dX12_digits_165 : decode cX12_digits 165 = .ok (.goto 4, 3) := by decide +kernel
theorem dX12_digits_168 : decode cX12_digits 168 = .ok (.lconst 0, 1) := by decide +kernel
theorem dX12_digits_169 : decode cX12_digits 169 = .ok (.lreturn, 1) := by decide +kernel
theorem dX12_number_0 : decode cX12_number 0 = .ok (.aload_n 0, 1) := by decide +kernel
theorem dX12_number_1 : decode cX12_number 1 = .ok (.invokevirtual 259, 3) := by decide +kernel
theorem dX12_number_4 : decode cX12_number 4 = .ok (.lstore 5, 2) := by decide +kernel
theorem dX12_number_6 : decode cX12_number 6 = .ok (.aload_n 0, 1) := by decide +kernel
theorem dX12_number_7 : decode cX12_number 7 = .ok (.invokevirtual 231, 3) := by decide +kernel
theorem dX12_number_10 : decode cX12_number 10 = .ok (.ifCond .eq 22, 3) := by decide +kernel
theorem dX12_number_13 : decode cX12_number 13 = .ok (.lload 5, 2) := by decide +kernel
theorem dX12_number_15 : decode cX12_number 15 = .ok (.lload_n 1, 1) := by decide +kernel
theorem dX12_number_16 : decode cX12_number 16 = .ok (.lload_n 3, 1) := by decide +kernel
theorem dX12_number_17 : decode cX12_number 17 = .ok (.invokestatic 263, 3) := by decide +kernel
theorem dX12_number_20 : decode cX12_number 20 = .ok (.ifCond .ne 12, 3) := by decide +kernel
theorem dX12_number_23 : decode cX12_number 23 = .ok (.aload_n 0, 1) := by decide +kernel
theorem dX12_number_24 : decode cX12_number 24 = .ok (.iconst 2, 1) := by decide +kernel
theorem dX12_number_25 : decode cX12_number 25 = .ok (.aload_n 0, 1) := by decide +kernel
theorem dX12_number_26 : decode cX12_number 26 = .ok (.getfield 32, 3) := by decide +kernel
theorem dX12_number_29 : decode cX12_number 29 = .ok (.invokevirtual 239, 3) := by decide +kernel
theorem dX12_number_32 : decode cX12_number 32 = .ok (.aload_n 0, 1) := by decide +kernel
theorem dX12_number_33 : decode cX12_number 33 = .ok (.invokevirtual 231, 3) := by decide +kernel
theorem dX12_number_36 : decode cX12_number 36 = .ok (.ifCond .eq 8, 3) := by decide +kernel
theorem dX12_number_39 : decode cX12_number 39 = .ok (.lload 5, 2) := by decide +kernel
theorem dX12_number_41 : decode cX12_number 41 = .ok (.goto 4, 3) := by decide +kernel
theorem dX12_number_44 : decode cX12_number 44 = .ok (.lconst 0, 1) := by decide +kernel
theorem dX12_number_45 : decode cX12_number 45 = .ok (.lreturn, 1) := by decide +kernel
theorem dX12_signed_0 : decode cX12_signed 0 = .ok (.aload_n 0, 1) := by decide +kernel
theorem dX12_signed_1 : decode cX12_signed 1 = .ok (.invokevirtual 231, 3) := by decide +kernel
theorem dX12_signed_4 : decode cX12_signed 4 = .ok (.ifCond .ne 5, 3) := by decide +kernel
theorem dX12_signed_7 : decode cX12_signed 7 = .ok (.lconst 0, 1) := by decide +kernel
theorem dX12_signed_8 : decode cX12_signed 8 = .ok (.lreturn, 1) := by decide +kernel
theorem dX12_signed_9 : decode cX12_signed 9 = .ok (.aload_n 0, 1) := by decide +kernel
theorem dX12_signed_10 : decode cX12_signed 10 = .ok (.invokevirtual 235, 3) := by decide +kernel
theorem dX12_signed_13 : decode cX12_signed 13 = .ok (.bipush 45, 2) := by decide +kernel
theorem dX12_signed_15 : decode cX12_signed 15 = .ok (.if_icmp .ne 7, 3) := by decide +kernel
theorem dX12_signed_18 : decode cX12_signed 18 = .ok (.iconst 1, 1) := by decide +kernel
theorem dX12_signed_19 : decode cX12_signed 19 = .ok (.goto 4, 3) := by decide +kernel
theorem dX12_signed_22 : decode cX12_signed 22 = .ok (.iconst 0, 1) := by decide +kernel
theorem dX12_signed_23 : decode cX12_signed 23 = .ok (.istore 5, 2) := by decide +kernel
theorem dX12_signed_25 : decode cX12_signed 25 = .ok (.aload_n 0, 1) := by decide +kernel
theorem dX12_signed_26 : decode cX12_signed 26 = .ok (.getfield 29, 3) := by decide +kernel
theorem dX12_signed_29 : decode cX12_signed 29 = .ok (.istore 6, 2) := by decide +kernel
theorem dX12_signed_31 : decode cX12_signed 31 = .ok (.iload 5, 2) := by decide +kernel
theorem dX12_signed_33 : decode cX12_signed 33 = .ok (.ifCond .eq 13, 3) := by decide +kernel
theorem dX12_signed_36 : decode cX12_signed 36 = .ok (.aload_n 0, 1) := by decide +kernel
theorem dX12_signed_37 : decode cX12_signed 37 = .ok (.dup, 1) := by decide +kernel
theorem dX12_signed_38 : decode cX12_signed 38 = .ok (.getfield 29, 3) := by decide +kernel
theorem dX12_signed_41 : decode cX12_signed 41 = .ok (.iconst 1, 1) := by decide +kernel
theorem dX12_signed_42 : decode cX12_signed 42 = .ok (.iadd, 1) := by decide +kernel
theorem dX12_signed_43 : decode cX12_signed 43 = .ok (.putfield 29, 3) := by decide +kernel
theorem dX12_signed_46 : decode cX12_signed 46 = .ok (.aload_n 0, 1) := by decide +kernel
theorem dX12_signed_47 : decode cX12_signed 47 = .ok (.invokevirtual 259, 3) := by decide +kernel
theorem dX12_signed_50 : decode cX12_signed 50 = .ok (.lstore 7, 2) := by decide +kernel
theorem dX12_signed_52 : decode cX12_signed 52 = .ok (.iload 5, 2) := by decide +kernel
theorem dX12_signed_54 : decode cX12_signed 54 = .ok (.ifCond .eq 9, 3) := by decide +kernel
theorem dX12_signed_57 : decode cX12_signed 57 = .ok (.lload 7, 2) := by decide +kernel
theorem dX12_signed_59 : decode cX12_signed 59 = .ok (.lneg, 1) := by decide +kernel
theorem dX12_signed_60 : decode cX12_signed 60 = .ok (.goto 5, 3) := by decide +kernel
theorem dX12_signed_63 : decode cX12_signed 63 = .ok (.lload 7, 2) := by decide +kernel
theorem dX12_signed_65 : decode cX12_signed 65 = .ok (.lstore 7, 2) := by decide +kernel
theorem dX12_signed_67 : decode cX12_signed 67 = .ok (.aload_n 0, 1) := by decide +kernel
theorem dX12_signed_68 : decode cX12_signed 68 = .ok (.invokevirtual 231, 3) := by decide +kernel
theorem dX12_signed_71 : decode cX12_signed 71 = .ok (.ifCond .eq 20, 3) := by decide +kernel
theorem dX12_signed_74 : decode cX12_signed 74 = .ok (.lload 7, 2) := by decide +kernel
theorem dX12_signed_76 : decode cX12_signed 76 = .ok (.lload_n 1, 1) := by decide +kernel
theorem dX12_signed_77 : decode cX12_signed 77 = .ok (.lload_n 3, 1) := by decide +kernel
theorem dX12_signed_78 : decode cX12_signed 78 = .ok (.invokestatic 263, 3) := by decide +kernel
theorem dX12_signed_81 : decode cX12_signed 81 = .ok (.ifCond .ne 10, 3) := by decide +kernel
theorem dX12_signed_84 : decode cX12_signed 84 = .ok (.aload_n 0, 1) := by decide +kernel
theorem dX12_signed_85 : decode cX12_signed 85 = .ok (.iconst 2, 1) := by decide +kernel
theorem dX12_signed_86 : decode cX12_signed 86 = .ok (.iload 6, 2) := by decide +kernel
theorem dX12_signed_88 : decode cX12_signed 88 = .ok (.invokevirtual 239, 3) := by decide +kernel
theorem dX12_signed_91 : decode cX12_signed 91 = .ok (.aload_n 0, 1) := by decide +kernel
theorem dX12_signed_92 : decode cX12_signed 92 = .ok (.iload 6, 2) := by decide +kernel
theorem dX12_signed_94 : decode cX12_signed 94 = .ok (.putfield 32, 3) := by decide +kernel
theorem dX12_signed_97 : decode cX12_signed 97 = .ok (.aload_n 0, 1) := by decide +kernel
theorem dX12_signed_98 : decode cX12_signed 98 = .ok (.invokevirtual 231, 3) := by decide +kernel
theorem dX12_signed_101 : decode cX12_signed 101 = .ok (.ifCond .eq 8, 3) := by decide +kernel
theorem dX12_signed_104 : decode cX12_signed 104 = .ok (.lload 7, 2) := by decide +kernel
theorem dX12_signed_106 : decode cX12_signed 106 = .ok (.goto 4, 3) := by decide +kernel
theorem dX12_signed_109 : decode cX12_signed 109 = .ok (.lconst 0, 1) := by decide +kernel
theorem dX12_signed_110 : decode cX12_signed 110 = .ok (.lreturn, 1) := by decide +kernel
theorem dX12_f_0 : decode cX12_f 0 = .ok (.iconst 4, 1) := by decide +kernel
theorem dX12_f_1 : decode cX12_f 1 = .ok (.aload_n 0, 1) := by decide +kernel
theorem dX12_f_2 : decode cX12_f 2 = .ok (.getfield 44, 3) := by decide +kernel
theorem dX12_f_5 : decode cX12_f 5 = .ok (.imul, 1) := by decide +kernel
theorem dX12_f_6 : decode cX12_f 6 = .ok (.iload_n 1, 1) := by decide +kernel
theorem dX12_f_7 : decode cX12_f 7 = .ok (.iadd, 1) := by decide +kernel
theorem dX12_f_8 : decode cX12_f 8 = .ok (.ireturn, 1) := by decide +kernel
theorem dX12_n_0 : decode cX12_n 0 = .ok (.bipush 14, 2) := by decide +kernel
theorem dX12_n_2 : decode cX12_n 2 = .ok (.aload_n 0, 1) := by decide +kernel
theorem dX12_n_3 : decode cX12_n 3 = .ok (.getfield 44, 3) := by decide +kernel
theorem dX12_n_6 : decode cX12_n 6 = .ok (.imul, 1) := by decide +kernel
theorem dX12_n_7 : decode cX12_n 7 = .ok (.iload_n 1, 1) := by decide +kernel
theorem dX12_n_8 : decode cX12_n 8 = .ok (.iadd, 1) := by decide +kernel
theorem dX12_n_9 : decode cX12_n 9 = .ok (.ireturn, 1) := by decide +kernel
theorem dX12_formatNamed_0 : decode cX12_formatNamed 0 = .ok (.iconst 0, 1) := by decide +kernel
theorem dX12_formatNamed_1 : decode cX12_formatNamed 1 = .ok (.istore_n 2, 1) := by decide +kernel
theorem dX12_formatNamed_2 : decode cX12_formatNamed 2 = .ok (.iload_n 2, 1) := by decide +kernel
theorem dX12_formatNamed_3 : decode cX12_formatNamed 3 = .ok (.aload_n 0, 1) := by decide +kernel
theorem dX12_formatNamed_4 : decode cX12_formatNamed 4 = .ok (.getfield 47, 3) := by decide +kernel
theorem dX12_formatNamed_7 : decode cX12_formatNamed 7 = .ok (.aload_n 0, 1) := by decide +kernel
theorem dX12_formatNamed_8 : decode cX12_formatNamed 8 = .ok (.getfield 44, 3) := by decide +kernel
theorem dX12_formatNamed_11 : decode cX12_formatNamed 11 = .ok (.iaload, 1) := by decide +kernel
theorem dX12_formatNamed_12 : decode cX12_formatNamed 12 = .ok (.if_icmp .ge 25, 3) := by decide +kernel
theorem dX12_formatNamed_15 : decode cX12_formatNamed 15 = .ok (.aload_n 0, 1) := by decide +kernel
theorem dX12_formatNamed_16 : decode cX12_formatNamed 16 = .ok (.getfield 50, 3) := by decide +kernel
theorem dX12_formatNamed_19 : decode cX12_formatNamed 19 = .ok (.aload_n 0, 1) := by decide +kernel
theorem dX12_formatNamed_20 : decode cX12_formatNamed 20 = .ok (.iload_n 2, 1) := by decide +kernel
theorem dX12_formatNamed_21 : decode cX12_formatNamed 21 = .ok (.invokevirtual 267, 3) := by decide +kernel
theorem dX12_formatNamed_24 : decode cX12_formatNamed 24 = .ok (.iaload, 1) := by decide +kernel
theorem dX12_formatNamed_25 : decode cX12_formatNamed 25 = .ok (.iload_n 1, 1) := by decide +kernel
theorem dX12_formatNamed_26 : decode cX12_formatNamed 26 = .ok (.if_icmp .ne 5, 3) := by decide +kernel
theorem dX12_formatNamed_29 : decode cX12_formatNamed 29 = .ok (.iload_n 2, 1) := by decide +kernel
theorem dX12_formatNamed_30 : decode cX12_formatNamed 30 = .ok (.ireturn, 1) := by decide +kernel
theorem dX12_formatNamed_31 : decode cX12_formatNamed 31 = .ok (.iinc 2 1, 3) := by decide +kernel
theorem dX12_formatNamed_34 : decode cX12_formatNamed 34 = .ok (.goto (-32), 3) := by decide +kernel
theorem dX12_formatNamed_37 : decode cX12_formatNamed 37 = .ok (.iconst (-1), 1) := by decide +kernel
theorem dX12_formatNamed_38 : decode cX12_formatNamed 38 = .ok (.ireturn, 1) := by decide +kernel
theorem dX12_numberNamed_0 : decode cX12_numberNamed 0 = .ok (.iconst 0, 1) := by decide +kernel
theorem dX12_numberNamed_1 : decode cX12_numberNamed 1 = .ok (.istore_n 2, 1) := by decide +kernel
theorem dX12_numberNamed_2 : decode cX12_numberNamed 2 = .ok (.iload_n 2, 1) := by decide +kernel
theorem dX12_numberNamed_3 : decode cX12_numberNamed 3 = .ok (.aload_n 0, 1) := by decide +kernel
theorem dX12_numberNamed_4 : decode cX12_numberNamed 4 = .ok (.getfield 62, 3) := by decide +kernel
theorem dX12_numberNamed_7 : decode cX12_numberNamed 7 = .ok (.aload_n 0, 1) := by decide +kernel
theorem dX12_numberNamed_8 : decode cX12_numberNamed 8 = .ok (.getfield 44, 3) := by decide +kernel
theorem dX12_numberNamed_11 : decode cX12_numberNamed 11 = .ok (.iaload, 1) := by decide +kernel
theorem dX12_numberNamed_12 : decode cX12_numberNamed 12 = .ok (.if_icmp .ge 25, 3) := by decide +kernel
theorem dX12_numberNamed_15 : decode cX12_numberNamed 15 = .ok (.aload_n 0, 1) := by decide +kernel
theorem dX12_numberNamed_16 : decode cX12_numberNamed 16 = .ok (.getfield 65, 3) := by decide +kernel
theorem dX12_numberNamed_19 : decode cX12_numberNamed 19 = .ok (.aload_n 0, 1) := by decide +kernel
theorem dX12_numberNamed_20 : decode cX12_numberNamed 20 = .ok (.iload_n 2, 1) := by decide +kernel
theorem dX12_numberNamed_21 : decode cX12_numberNamed 21 = .ok (.invokevirtual 270, 3) := by decide +kernel
theorem dX12_numberNamed_24 : decode cX12_numberNamed 24 = .ok (.iaload, 1) := by decide +kernel
theorem dX12_numberNamed_25 : decode cX12_numberNamed 25 = .ok (.iload_n 1, 1) := by decide +kernel
theorem dX12_numberNamed_26 : decode cX12_numberNamed 26 = .ok (.if_icmp .ne 5, 3) := by decide +kernel
theorem dX12_numberNamed_29 : decode cX12_numberNamed 29 = .ok (.iload_n 2, 1) := by decide +kernel
theorem dX12_numberNamed_30 : decode cX12_numberNamed 30 = .ok (.ireturn, 1) := by decide +kernel
theorem dX12_numberNamed_31 : decode cX12_numberNamed 31 = .ok (.iinc 2 1, 3) := by decide +kernel
theorem dX12_numberNamed_34 : decode cX12_numberNamed 34 = .ok (.goto (-32), 3) := by decide +kernel
theorem dX12_numberNamed_37 : decode cX12_numberNamed 37 = .ok (.iconst (-1), 1) := by decide +kernel
theorem dX12_numberNamed_38 : decode cX12_numberNamed 38 = .ok (.ireturn, 1) := by decide +kernel
theorem dX12_newName_0 : decode cX12_newName 0 = .ok (.aload_n 0, 1) := by decide +kernel
theorem dX12_newName_1 : decode cX12_newName 1 = .ok (.invokevirtual 273, 3) := by decide +kernel
theorem dX12_newName_4 : decode cX12_newName 4 = .ok (.istore_n 1, 1) := by decide +kernel
theorem dX12_newName_5 : decode cX12_newName 5 = .ok (.aload_n 0, 1) := by decide +kernel
theorem dX12_newName_6 : decode cX12_newName 6 = .ok (.invokevirtual 231, 3) := by decide +kernel
theorem dX12_newName_9 : decode cX12_newName 9 = .ok (.ifCond .eq 30, 3) := by decide +kernel
theorem dX12_newName_12 : decode cX12_newName 12 = .ok (.aload_n 0, 1) := by decide +kernel
theorem dX12_newName_13 : decode cX12_newName 13 = .ok (.iload_n 1, 1) := by decide +kernel
theorem dX12_newName_14 : decode cX12_newName 14 = .ok (.invokevirtual 276, 3) := by decide +kernel
theorem dX12_newName_17 : decode cX12_newName 17 = .ok (.iconst (-1), 1) := by decide +kernel
theorem dX12_newName_18 : decode cX12_newName 18 = .ok (.if_icmp .ne 12, 3) := by decide +kernel
theorem dX12_newName_21 : decode cX12_newName 21 = .ok (.aload_n 0, 1) := by decide +kernel
theorem dX12_newName_22 : decode cX12_newName 22 = .ok (.iload_n 1, 1) := by decide +kernel
theorem dX12_newName_23 : decode cX12_newName 23 = .ok (.invokevirtual 279, 3) := by decide +kernel
theorem dX12_newName_26 : decode cX12_newName 26 = .ok (.iconst (-1), 1) := by decide +kernel
theorem dX12_newName_27 : decode cX12_newName 27 = .ok (.if_icmp .eq 12, 3) := by decide +kernel
theorem dX12_newName_30 : decode cX12_newName 30 = .ok (.aload_n 0, 1) := by decide +kernel
theorem dX12_newName_31 : decode cX12_newName 31 = .ok (.iconst 3, 1) := by decide +kernel
theorem dX12_newName_32 : decode cX12_newName 32 = .ok (.aload_n 0, 1) := by decide +kernel
theorem dX12_newName_33 : decode cX12_newName 33 = .ok (.getfield 32, 3) := by decide +kernel
theorem dX12_newName_36 : decode cX12_newName 36 = .ok (.invokevirtual 239, 3) := by decide +kernel
theorem dX12_newName_39 : decode cX12_newName 39 = .ok (.iload_n 1, 1) := by decide +kernel
theorem dX12_newName_40 : decode cX12_newName 40 = .ok (.ireturn, 1) := by decide +kernel
theorem dX12_toldNumber_0 : decode cX12_toldNumber 0 = .ok (.aload_n 0, 1) := by decide +kernel
theorem dX12_toldNumber_1 : decode cX12_toldNumber 1 = .ok (.invokevirtual 273, 3) := by decide +kernel
theorem dX12_toldNumber_4 : decode cX12_toldNumber 4 = .ok (.istore_n 1, 1) := by decide +kernel
theorem dX12_toldNumber_5 : decode cX12_toldNumber 5 = .ok (.aload_n 0, 1) := by decide +kernel
theorem dX12_toldNumber_6 : decode cX12_toldNumber 6 = .ok (.invokevirtual 231, 3) := by decide +kernel
theorem dX12_toldNumber_9 : decode cX12_toldNumber 9 = .ok (.ifCond .eq 11, 3) := by decide +kernel
theorem dX12_toldNumber_12 : decode cX12_toldNumber 12 = .ok (.aload_n 0, 1) := by decide +kernel
theorem dX12_toldNumber_13 : decode cX12_toldNumber 13 = .ok (.iload_n 1, 1) := by decide +kernel
theorem dX12_toldNumber_14 : decode cX12_toldNumber 14 = .ok (.invokevirtual 279, 3) := by decide +kernel
theorem dX12_toldNumber_17 : decode cX12_toldNumber 17 = .ok (.goto 4, 3) := by decide +kernel
theorem dX12_toldNumber_20 : decode cX12_toldNumber 20 = .ok (.iconst 0, 1) := by decide +kernel
theorem dX12_toldNumber_21 : decode cX12_toldNumber 21 = .ok (.istore_n 2, 1) := by decide +kernel
theorem dX12_toldNumber_22 : decode cX12_toldNumber 22 = .ok (.aload_n 0, 1) := by decide +kernel
theorem dX12_toldNumber_23 : decode cX12_toldNumber 23 = .ok (.invokevirtual 231, 3) := by decide +kernel
theorem dX12_toldNumber_26 : decode cX12_toldNumber 26 = .ok (.ifCond .eq 17, 3) := by decide +kernel
theorem dX12_toldNumber_29 : decode cX12_toldNumber 29 = .ok (.iload_n 2, 1) := by decide +kernel
theorem dX12_toldNumber_30 : decode cX12_toldNumber 30 = .ok (.iconst (-1), 1) := by decide +kernel
theorem dX12_toldNumber_31 : decode cX12_toldNumber 31 = .ok (.if_icmp .ne 12, 3) := by decide +kernel
theorem dX12_toldNumber_34 : decode cX12_toldNumber 34 = .ok (.aload_n 0, 1) := by decide +kernel
theorem dX12_toldNumber_35 : decode cX12_toldNumber 35 = .ok (.iconst 3, 1) := by decide +kernel
theorem dX12_toldNumber_36 : decode cX12_toldNumber 36 = .ok (.aload_n 0, 1) := by decide +kernel
theorem dX12_toldNumber_37 : decode cX12_toldNumber 37 = .ok (.getfield 32, 3) := by decide +kernel
theorem dX12_toldNumber_40 : decode cX12_toldNumber 40 = .ok (.invokevirtual 239, 3) := by decide +kernel
theorem dX12_toldNumber_43 : decode cX12_toldNumber 43 = .ok (.aload_n 0, 1) := by decide +kernel
theorem dX12_toldNumber_44 : decode cX12_toldNumber 44 = .ok (.invokevirtual 231, 3) := by decide +kernel
theorem dX12_toldNumber_47 : decode cX12_toldNumber 47 = .ok (.ifCond .eq 7, 3) := by decide +kernel
theorem dX12_toldNumber_50 : decode cX12_toldNumber 50 = .ok (.iload_n 2, 1) := by decide +kernel
theorem dX12_toldNumber_51 : decode cX12_toldNumber 51 = .ok (.goto 4, 3) := by decide +kernel
theorem dX12_toldNumber_54 : decode cX12_toldNumber 54 = .ok (.iconst 0, 1) := by decide +kernel
theorem dX12_toldNumber_55 : decode cX12_toldNumber 55 = .ok (.ireturn, 1) := by decide +kernel
theorem dX12_readsFormat_0 : decode cX12_readsFormat 0 = .ok (.aload_n 0, 1) := by decide +kernel
theorem dX12_readsFormat_1 : decode cX12_readsFormat 1 = .ok (.invokevirtual 282, 3) := by decide +kernel
theorem dX12_readsFormat_4 : decode cX12_readsFormat 4 = .ok (.istore_n 1, 1) := by decide +kernel
theorem dX12_readsFormat_5 : decode cX12_readsFormat 5 = .ok (.aload_n 0, 1) := by decide +kernel
theorem dX12_readsFormat_6 : decode cX12_readsFormat 6 = .ok (.iconst 1, 1) := by decide +kernel
theorem dX12_readsFormat_7 : decode cX12_readsFormat 7 = .ok (.invokevirtual 285, 3) := by decide +kernel
theorem dX12_readsFormat_10 : decode cX12_readsFormat 10 = .ok (.aload_n 0, 1) := by decide +kernel
theorem dX12_readsFormat_11 : decode cX12_readsFormat 11 = .ok (.lconst 1, 1) := by decide +kernel
theorem dX12_readsFormat_12 : decode cX12_readsFormat 12 = .ok (.ldc2_w 288, 3) := by decide +kernel
theorem dX12_readsFormat_15 : decode cX12_readsFormat 15 = .ok (.invokevirtual 290, 3) := by decide +kernel
theorem dX12_readsFormat_18 : decode cX12_readsFormat 18 = .ok (.lstore_n 2, 1) := by decide +kernel
theorem dX12_readsFormat_19 : decode cX12_readsFormat 19 = .ok (.aload_n 0, 1) := by decide +kernel
theorem dX12_readsFormat_20 : decode cX12_readsFormat 20 = .ok (.iconst 2, 1) := by decide +kernel
theorem dX12_readsFormat_21 : decode cX12_readsFormat 21 = .ok (.invokevirtual 285, 3) := by decide +kernel
theorem dX12_readsFormat_24 : decode cX12_readsFormat 24 = .ok (.aload_n 0, 1) := by decide +kernel
theorem dX12_readsFormat_25 : decode cX12_readsFormat 25 = .ok (.invokevirtual 259, 3) := by decide +kernel
theorem dX12_readsFormat_28 : decode cX12_readsFormat 28 = .ok (.lstore 4, 2) := by decide +kernel
theorem dX12_readsFormat_30 : decode cX12_readsFormat 30 = .ok (.aload_n 0, 1) := by decide +kernel
theorem dX12_readsFormat_31 : decode cX12_readsFormat 31 = .ok (.invokevirtual 231, 3) := by decide +kernel
theorem dX12_readsFormat_34 : decode cX12_readsFormat 34 = .ok (.ifCond .eq 24, 3) := by decide +kernel
theorem dX12_readsFormat_37 : decode cX12_readsFormat 37 = .ok (.lload 4, 2) := by decide +kernel
theorem dX12_readsFormat_39 : decode cX12_readsFormat 39 = .ok (.lconst 1, 1) := by decide +kernel
theorem dX12_readsFormat_40 : decode cX12_readsFormat 40 = .ok (.ldc2_w 294, 3) := by decide +kernel
theorem dX12_readsFormat_43 : decode cX12_readsFormat 43 = .ok (.invokestatic 263, 3) := by decide +kernel
theorem dX12_readsFormat_46 : decode cX12_readsFormat 46 = .ok (.ifCond .ne 12, 3) := by decide +kernel
theorem dX12_readsFormat_49 : decode cX12_readsFormat 49 = .ok (.aload_n 0, 1) := by decide +kernel
theorem dX12_readsFormat_50 : decode cX12_readsFormat 50 = .ok (.iconst 2, 1) := by decide +kernel
theorem dX12_readsFormat_51 : decode cX12_readsFormat 51 = .ok (.aload_n 0, 1) := by decide +kernel
theorem dX12_readsFormat_52 : decode cX12_readsFormat 52 = .ok (.getfield 32, 3) := by decide +kernel
theorem dX12_readsFormat_55 : decode cX12_readsFormat 55 = .ok (.invokevirtual 239, 3) := by decide +kernel
theorem dX12_readsFormat_58 : decode cX12_readsFormat 58 = .ok (.aload_n 0, 1) := by decide +kernel
theorem dX12_readsFormat_59 : decode cX12_readsFormat 59 = .ok (.iconst 3, 1) := by decide +kernel
theorem dX12_readsFormat_60 : decode cX12_readsFormat 60 = .ok (.invokevirtual 285, 3) := by decide +kernel
theorem dX12_readsFormat_63 : decode cX12_readsFormat 63 = .ok (.aload_n 0, 1) := by decide +kernel
theorem dX12_readsFormat_64 : decode cX12_readsFormat 64 = .ok (.lconst 0, 1) := by decide +kernel
theorem dX12_readsFormat_65 : decode cX12_readsFormat 65 = .ok (.ldc2_w 296, 3) := by decide +kernel
theorem dX12_readsFormat_68 : decode cX12_readsFormat 68 = .ok (.invokevirtual 290, 3) := by decide +kernel
theorem dX12_readsFormat_71 : decode cX12_readsFormat 71 = .ok (.lstore 6, 2) := by decide +kernel
theorem dX12_readsFormat_73 : decode cX12_readsFormat 73 = .ok (.aload_n 0, 1) := by decide +kernel
theorem dX12_readsFormat_74 : decode cX12_readsFormat 74 = .ok (.invokevirtual 231, 3) := by decide +kernel
theorem dX12_readsFormat_77 : decode cX12_readsFormat 77 = .ok (.ifCond .ne 4, 3) := by decide +kernel
theorem dX12_readsFormat_80 : decode cX12_readsFormat 80 = .ok (.return_, 1) := by decide +kernel
theorem dX12_readsFormat_81 : decode cX12_readsFormat 81 = .ok (.aload_n 0, 1) := by decide +kernel
theorem dX12_readsFormat_82 : decode cX12_readsFormat 82 = .ok (.aload_n 0, 1) := by decide +kernel
theorem dX12_readsFormat_83 : decode cX12_readsFormat 83 = .ok (.getfield 47, 3) := by decide +kernel
theorem dX12_readsFormat_86 : decode cX12_readsFormat 86 = .ok (.aload_n 0, 1) := by decide +kernel
theorem dX12_readsFormat_87 : decode cX12_readsFormat 87 = .ok (.getfield 44, 3) := by decide +kernel
theorem dX12_readsFormat_90 : decode cX12_readsFormat 90 = .ok (.iaload, 1) := by decide +kernel
theorem dX12_readsFormat_91 : decode cX12_readsFormat 91 = .ok (.invokevirtual 267, 3) := by decide +kernel
theorem dX12_readsFormat_94 : decode cX12_readsFormat 94 = .ok (.istore 8, 2) := by decide +kernel
theorem dX12_readsFormat_96 : decode cX12_readsFormat 96 = .ok (.aload_n 0, 1) := by decide +kernel
theorem dX12_readsFormat_97 : decode cX12_readsFormat 97 = .ok (.getfield 50, 3) := by decide +kernel
theorem dX12_readsFormat_100 : decode cX12_readsFormat 100 = .ok (.iload 8, 2) := by decide +kernel
theorem dX12_readsFormat_102 : decode cX12_readsFormat 102 = .ok (.iload_n 1, 1) := by decide +kernel
theorem dX12_readsFormat_103 : decode cX12_readsFormat 103 = .ok (.iastore, 1) := by decide +kernel
theorem dX12_readsFormat_104 : decode cX12_readsFormat 104 = .ok (.aload_n 0, 1) := by decide +kernel
theorem dX12_readsFormat_105 : decode cX12_readsFormat 105 = .ok (.getfield 53, 3) := by decide +kernel
theorem dX12_readsFormat_108 : decode cX12_readsFormat 108 = .ok (.iload 8, 2) := by decide +kernel
theorem dX12_readsFormat_110 : decode cX12_readsFormat 110 = .ok (.lload_n 2, 1) := by decide +kernel
theorem dX12_readsFormat_111 : decode cX12_readsFormat 111 = .ok (.l2i, 1) := by decide +kernel
theorem dX12_readsFormat_112 : decode cX12_readsFormat 112 = .ok (.iastore, 1) := by decide +kernel
theorem dX12_readsFormat_113 : decode cX12_readsFormat 113 = .ok (.aload_n 0, 1) := by decide +kernel
theorem dX12_readsFormat_114 : decode cX12_readsFormat 114 = .ok (.getfield 56, 3) := by decide +kernel
theorem dX12_readsFormat_117 : decode cX12_readsFormat 117 = .ok (.iload 8, 2) := by decide +kernel
theorem dX12_readsFormat_119 : decode cX12_readsFormat 119 = .ok (.lload 4, 2) := by decide +kernel
theorem dX12_readsFormat_121 : decode cX12_readsFormat 121 = .ok (.l2i, 1) := by decide +kernel
theorem dX12_readsFormat_122 : decode cX12_readsFormat 122 = .ok (.iastore, 1) := by decide +kernel
theorem dX12_readsFormat_123 : decode cX12_readsFormat 123 = .ok (.aload_n 0, 1) := by decide +kernel
theorem dX12_readsFormat_124 : decode cX12_readsFormat 124 = .ok (.getfield 59, 3) := by decide +kernel
theorem dX12_readsFormat_127 : decode cX12_readsFormat 127 = .ok (.iload 8, 2) := by decide +kernel
theorem dX12_readsFormat_129 : decode cX12_readsFormat 129 = .ok (.lload 6, 2) := by decide +kernel
theorem dX12_readsFormat_131 : decode cX12_readsFormat 131 = .ok (.l2i, 1) := by decide +kernel
theorem dX12_readsFormat_132 : decode cX12_readsFormat 132 = .ok (.iastore, 1) := by decide +kernel
theorem dX12_readsFormat_133 : decode cX12_readsFormat 133 = .ok (.aload_n 0, 1) := by decide +kernel
theorem dX12_readsFormat_134 : decode cX12_readsFormat 134 = .ok (.getfield 47, 3) := by decide +kernel
theorem dX12_readsFormat_137 : decode cX12_readsFormat 137 = .ok (.aload_n 0, 1) := by decide +kernel
theorem dX12_readsFormat_138 : decode cX12_readsFormat 138 = .ok (.getfield 44, 3) := by decide +kernel
theorem dX12_readsFormat_141 : decode cX12_readsFormat 141 = .ok (.dup2, 1) := by decide +kernel
theorem dX12_readsFormat_142 : decode cX12_readsFormat 142 = .ok (.iaload, 1) := by decide +kernel
theorem dX12_readsFormat_143 : decode cX12_readsFormat 143 = .ok (.iconst 1, 1) := by decide +kernel
theorem dX12_readsFormat_144 : decode cX12_readsFormat 144 = .ok (.iadd, 1) := by decide +kernel
theorem dX12_readsFormat_145 : decode cX12_readsFormat 145 = .ok (.iastore, 1) := by decide +kernel
theorem dX12_readsFormat_146 : decode cX12_readsFormat 146 = .ok (.return_, 1) := by decide +kernel
theorem dX12_newNumber_0 : decode cX12_newNumber 0 = .ok (.aload_n 0, 1) := by decide +kernel
theorem dX12_newNumber_1 : decode cX12_newNumber 1 = .ok (.getfield 62, 3) := by decide +kernel
theorem dX12_newNumber_4 : decode cX12_newNumber 4 = .ok (.aload_n 0, 1) := by decide +kernel
theorem dX12_newNumber_5 : decode cX12_newNumber 5 = .ok (.getfield 44, 3) := by decide +kernel
theorem dX12_newNumber_8 : decode cX12_newNumber 8 = .ok (.iaload, 1) := by decide +kernel
theorem dX12_newNumber_9 : decode cX12_newNumber 9 = .ok (.istore_n 3, 1) := by decide +kernel
theorem dX12_newNumber_10 : decode cX12_newNumber 10 = .ok (.aload_n 0, 1) := by decide +kernel
theorem dX12_newNumber_11 : decode cX12_newNumber 11 = .ok (.getfield 65, 3) := by decide +kernel
theorem dX12_newNumber_14 : decode cX12_newNumber 14 = .ok (.aload_n 0, 1) := by decide +kernel
theorem dX12_newNumber_15 : decode cX12_newNumber 15 = .ok (.iload_n 3, 1) := by decide +kernel
theorem dX12_newNumber_16 : decode cX12_newNumber 16 = .ok (.invokevirtual 270, 3) := by decide +kernel
theorem dX12_newNumber_19 : decode cX12_newNumber 19 = .ok (.iload_n 1, 1) := by decide +kernel
theorem dX12_newNumber_20 : decode cX12_newNumber 20 = .ok (.iastore, 1) := by decide +kernel
theorem dX12_newNumber_21 : decode cX12_newNumber 21 = .ok (.aload_n 0, 1) := by decide +kernel
theorem dX12_newNumber_22 : decode cX12_newNumber 22 = .ok (.getfield 68, 3) := by decide +kernel
theorem dX12_newNumber_25 : decode cX12_newNumber 25 = .ok (.aload_n 0, 1) := by decide +kernel
theorem dX12_newNumber_26 : decode cX12_newNumber 26 = .ok (.iload_n 3, 1) := by decide +kernel
theorem dX12_newNumber_27 : decode cX12_newNumber 27 = .ok (.invokevirtual 270, 3) := by decide +kernel
theorem dX12_newNumber_30 : decode cX12_newNumber 30 = .ok (.iload_n 2, 1) := by decide +kernel
theorem dX12_newNumber_31 : decode cX12_newNumber 31 = .ok (.iastore, 1) := by decide +kernel
theorem dX12_newNumber_32 : decode cX12_newNumber 32 = .ok (.aload_n 0, 1) := by decide +kernel
theorem dX12_newNumber_33 : decode cX12_newNumber 33 = .ok (.getfield 71, 3) := by decide +kernel
theorem dX12_newNumber_36 : decode cX12_newNumber 36 = .ok (.aload_n 0, 1) := by decide +kernel
theorem dX12_newNumber_37 : decode cX12_newNumber 37 = .ok (.iload_n 3, 1) := by decide +kernel
theorem dX12_newNumber_38 : decode cX12_newNumber 38 = .ok (.invokevirtual 270, 3) := by decide +kernel
theorem dX12_newNumber_41 : decode cX12_newNumber 41 = .ok (.iconst (-1), 1) := by decide +kernel
theorem dX12_newNumber_42 : decode cX12_newNumber 42 = .ok (.iastore, 1) := by decide +kernel
theorem dX12_newNumber_43 : decode cX12_newNumber 43 = .ok (.aload_n 0, 1) := by decide +kernel
theorem dX12_newNumber_44 : decode cX12_newNumber 44 = .ok (.getfield 74, 3) := by decide +kernel
theorem dX12_newNumber_47 : decode cX12_newNumber 47 = .ok (.aload_n 0, 1) := by decide +kernel
theorem dX12_newNumber_48 : decode cX12_newNumber 48 = .ok (.iload_n 3, 1) := by decide +kernel
theorem dX12_newNumber_49 : decode cX12_newNumber 49 = .ok (.invokevirtual 270, 3) := by decide +kernel
theorem dX12_newNumber_52 : decode cX12_newNumber 52 = .ok (.iconst (-1), 1) := by decide +kernel
theorem dX12_newNumber_53 : decode cX12_newNumber 53 = .ok (.iastore, 1) := by decide +kernel
theorem dX12_newNumber_54 : decode cX12_newNumber 54 = .ok (.aload_n 0, 1) := by decide +kernel
theorem dX12_newNumber_55 : decode cX12_newNumber 55 = .ok (.getfield 87, 3) := by decide +kernel
theorem dX12_newNumber_58 : decode cX12_newNumber 58 = .ok (.aload_n 0, 1) := by decide +kernel
theorem dX12_newNumber_59 : decode cX12_newNumber 59 = .ok (.iload_n 3, 1) := by decide +kernel
theorem dX12_newNumber_60 : decode cX12_newNumber 60 = .ok (.invokevirtual 270, 3) := by decide +kernel
theorem dX12_newNumber_63 : decode cX12_newNumber 63 = .ok (.iconst (-1), 1) := by decide +kernel
theorem dX12_newNumber_64 : decode cX12_newNumber 64 = .ok (.iastore, 1) := by decide +kernel
theorem dX12_newNumber_65 : decode cX12_newNumber 65 = .ok (.aload_n 0, 1) := by decide +kernel
theorem dX12_newNumber_66 : decode cX12_newNumber 66 = .ok (.getfield 90, 3) := by decide +kernel
theorem dX12_newNumber_69 : decode cX12_newNumber 69 = .ok (.aload_n 0, 1) := by decide +kernel
theorem dX12_newNumber_70 : decode cX12_newNumber 70 = .ok (.iload_n 3, 1) := by decide +kernel
theorem dX12_newNumber_71 : decode cX12_newNumber 71 = .ok (.invokevirtual 270, 3) := by decide +kernel
theorem dX12_newNumber_74 : decode cX12_newNumber 74 = .ok (.iconst (-1), 1) := by decide +kernel
theorem dX12_newNumber_75 : decode cX12_newNumber 75 = .ok (.iastore, 1) := by decide +kernel
theorem dX12_newNumber_76 : decode cX12_newNumber 76 = .ok (.aload_n 0, 1) := by decide +kernel
theorem dX12_newNumber_77 : decode cX12_newNumber 77 = .ok (.getfield 93, 3) := by decide +kernel
theorem dX12_newNumber_80 : decode cX12_newNumber 80 = .ok (.aload_n 0, 1) := by decide +kernel
theorem dX12_newNumber_81 : decode cX12_newNumber 81 = .ok (.iload_n 3, 1) := by decide +kernel
theorem dX12_newNumber_82 : decode cX12_newNumber 82 = .ok (.invokevirtual 270, 3) := by decide +kernel
theorem dX12_newNumber_85 : decode cX12_newNumber 85 = .ok (.iload_n 3, 1) := by decide +kernel
theorem dX12_newNumber_86 : decode cX12_newNumber 86 = .ok (.iastore, 1) := by decide +kernel
theorem dX12_newNumber_87 : decode cX12_newNumber 87 = .ok (.return_, 1) := by decide +kernel
theorem dX12_readsInput_0 : decode cX12_readsInput 0 = .ok (.aload_n 0, 1) := by decide +kernel
theorem dX12_readsInput_1 : decode cX12_readsInput 1 = .ok (.invokevirtual 282, 3) := by decide +kernel
theorem dX12_readsInput_4 : decode cX12_readsInput 4 = .ok (.istore_n 1, 1) := by decide +kernel
theorem dX12_readsInput_5 : decode cX12_readsInput 5 = .ok (.aload_n 0, 1) := by decide +kernel
theorem dX12_readsInput_6 : decode cX12_readsInput 6 = .ok (.ldc2_w 298, 3) := by decide +kernel
theorem dX12_readsInput_9 : decode cX12_readsInput 9 = .ok (.ldc2_w 300, 3) := by decide +kernel
theorem dX12_readsInput_12 : decode cX12_readsInput 12 = .ok (.invokevirtual 302, 3) := by decide +kernel
theorem dX12_readsInput_15 : decode cX12_readsInput 15 = .ok (.lstore_n 2, 1) := by decide +kernel
theorem dX12_readsInput_16 : decode cX12_readsInput 16 = .ok (.aload_n 0, 1) := by decide +kernel
theorem dX12_readsInput_17 : decode cX12_readsInput 17 = .ok (.ldc2_w 298, 3) := by decide +kernel
theorem dX12_readsInput_20 : decode cX12_readsInput 20 = .ok (.ldc2_w 300, 3) := by decide +kernel
theorem dX12_readsInput_23 : decode cX12_readsInput 23 = .ok (.invokevirtual 302, 3) := by decide +kernel
theorem dX12_readsInput_26 : decode cX12_readsInput 26 = .ok (.lstore 4, 2) := by decide +kernel
theorem dX12_readsInput_28 : decode cX12_readsInput 28 = .ok (.aload_n 0, 1) := by decide +kernel
theorem dX12_readsInput_29 : decode cX12_readsInput 29 = .ok (.invokevirtual 231, 3) := by decide +kernel
theorem dX12_readsInput_32 : decode cX12_readsInput 32 = .ok (.ifCond .eq 19, 3) := by decide +kernel
theorem dX12_readsInput_35 : decode cX12_readsInput 35 = .ok (.lload 4, 2) := by decide +kernel
theorem dX12_readsInput_37 : decode cX12_readsInput 37 = .ok (.lload_n 2, 1) := by decide +kernel
theorem dX12_readsInput_38 : decode cX12_readsInput 38 = .ok (.lcmp, 1) := by decide +kernel
theorem dX12_readsInput_39 : decode cX12_readsInput 39 = .ok (.ifCond .ge 12, 3) := by decide +kernel
theorem dX12_readsInput_42 : decode cX12_readsInput 42 = .ok (.aload_n 0, 1) := by decide +kernel
theorem dX12_readsInput_43 : decode cX12_readsInput 43 = .ok (.iconst 2, 1) := by decide +kernel
theorem dX12_readsInput_44 : decode cX12_readsInput 44 = .ok (.aload_n 0, 1) := by decide +kernel
theorem dX12_readsInput_45 : decode cX12_readsInput 45 = .ok (.getfield 32, 3) := by decide +kernel
theorem dX12_readsInput_48 : decode cX12_readsInput 48 = .ok (.invokevirtual 239, 3) := by decide +kernel
theorem dX12_readsInput_51 : decode cX12_readsInput 51 = .ok (.aload_n 0, 1) := by decide +kernel
theorem dX12_readsInput_52 : decode cX12_readsInput 52 = .ok (.invokevirtual 231, 3) := by decide +kernel
theorem dX12_readsInput_55 : decode cX12_readsInput 55 = .ok (.ifCond .ne 4, 3) := by decide +kernel
theorem dX12_readsInput_58 : decode cX12_readsInput 58 = .ok (.return_, 1) := by decide +kernel
theorem dX12_readsInput_59 : decode cX12_readsInput 59 = .ok (.aload_n 0, 1) := by decide +kernel
theorem dX12_readsInput_60 : decode cX12_readsInput 60 = .ok (.iload_n 1, 1) := by decide +kernel
theorem dX12_readsInput_61 : decode cX12_readsInput 61 = .ok (.iconst 0, 1) := by decide +kernel
theorem dX12_readsInput_62 : decode cX12_readsInput 62 = .ok (.invokevirtual 305, 3) := by decide +kernel
theorem dX12_readsInput_65 : decode cX12_readsInput 65 = .ok (.aload_n 0, 1) := by decide +kernel
theorem dX12_readsInput_66 : decode cX12_readsInput 66 = .ok (.getfield 77, 3) := by decide +kernel
theorem dX12_readsInput_69 : decode cX12_readsInput 69 = .ok (.aload_n 0, 1) := by decide +kernel
theorem dX12_readsInput_70 : decode cX12_readsInput 70 = .ok (.aload_n 0, 1) := by decide +kernel
theorem dX12_readsInput_71 : decode cX12_readsInput 71 = .ok (.getfield 62, 3) := by decide +kernel
theorem dX12_readsInput_74 : decode cX12_readsInput 74 = .ok (.aload_n 0, 1) := by decide +kernel
theorem dX12_readsInput_75 : decode cX12_readsInput 75 = .ok (.getfield 44, 3) := by decide +kernel
theorem dX12_readsInput_78 : decode cX12_readsInput 78 = .ok (.iaload, 1) := by decide +kernel
theorem dX12_readsInput_79 : decode cX12_readsInput 79 = .ok (.invokevirtual 270, 3) := by decide +kernel
theorem dX12_readsInput_82 : decode cX12_readsInput 82 = .ok (.lload_n 2, 1) := by decide +kernel
theorem dX12_readsInput_83 : decode cX12_readsInput 83 = .ok (.lastore, 1) := by decide +kernel
theorem dX12_readsInput_84 : decode cX12_readsInput 84 = .ok (.aload_n 0, 1) := by decide +kernel
theorem dX12_readsInput_85 : decode cX12_readsInput 85 = .ok (.getfield 81, 3) := by decide +kernel
theorem dX12_readsInput_88 : decode cX12_readsInput 88 = .ok (.aload_n 0, 1) := by decide +kernel
theorem dX12_readsInput_89 : decode cX12_readsInput 89 = .ok (.aload_n 0, 1) := by decide +kernel
theorem dX12_readsInput_90 : decode cX12_readsInput 90 = .ok (.getfield 62, 3) := by decide +kernel
theorem dX12_readsInput_93 : decode cX12_readsInput 93 = .ok (.aload_n 0, 1) := by decide +kernel
theorem dX12_readsInput_94 : decode cX12_readsInput 94 = .ok (.getfield 44, 3) := by decide +kernel
theorem dX12_readsInput_97 : decode cX12_readsInput 97 = .ok (.iaload, 1) := by decide +kernel
theorem dX12_readsInput_98 : decode cX12_readsInput 98 = .ok (.invokevirtual 270, 3) := by decide +kernel
theorem dX12_readsInput_101 : decode cX12_readsInput 101 = .ok (.lload 4, 2) := by decide +kernel
theorem dX12_readsInput_103 : decode cX12_readsInput 103 = .ok (.lastore, 1) := by decide +kernel
theorem dX12_readsInput_104 : decode cX12_readsInput 104 = .ok (.aload_n 0, 1) := by decide +kernel
theorem dX12_readsInput_105 : decode cX12_readsInput 105 = .ok (.getfield 62, 3) := by decide +kernel
theorem dX12_readsInput_108 : decode cX12_readsInput 108 = .ok (.aload_n 0, 1) := by decide +kernel
theorem dX12_readsInput_109 : decode cX12_readsInput 109 = .ok (.getfield 44, 3) := by decide +kernel
theorem dX12_readsInput_112 : decode cX12_readsInput 112 = .ok (.dup2, 1) := by decide +kernel
theorem dX12_readsInput_113 : decode cX12_readsInput 113 = .ok (.iaload, 1) := by decide +kernel
theorem dX12_readsInput_114 : decode cX12_readsInput 114 = .ok (.iconst 1, 1) := by decide +kernel
theorem dX12_readsInput_115 : decode cX12_readsInput 115 = .ok (.iadd, 1) := by decide +kernel
theorem dX12_readsInput_116 : decode cX12_readsInput 116 = .ok (.iastore, 1) := by decide +kernel
theorem dX12_readsInput_117 : decode cX12_readsInput 117 = .ok (.return_, 1) := by decide +kernel
theorem dX12_readsWhat_0 : decode cX12_readsWhat 0 = .ok (.aload_n 0, 1) := by decide +kernel
theorem dX12_readsWhat_1 : decode cX12_readsWhat 1 = .ok (.lconst 0, 1) := by decide +kernel
theorem dX12_readsWhat_2 : decode cX12_readsWhat 2 = .ok (.putfield 96, 3) := by decide +kernel
theorem dX12_readsWhat_5 : decode cX12_readsWhat 5 = .ok (.aload_n 0, 1) := by decide +kernel
theorem dX12_readsWhat_6 : decode cX12_readsWhat 6 = .ok (.invokevirtual 231, 3) := by decide +kernel
theorem dX12_readsWhat_9 : decode cX12_readsWhat 9 = .ok (.ifCond .eq 39, 3) := by decide +kernel
theorem dX12_readsWhat_12 : decode cX12_readsWhat 12 = .ok (.aload_n 0, 1) := by decide +kernel
theorem dX12_readsWhat_13 : decode cX12_readsWhat 13 = .ok (.invokevirtual 235, 3) := by decide +kernel
theorem dX12_readsWhat_16 : decode cX12_readsWhat 16 = .ok (.bipush 45, 2) := by decide +kernel
theorem dX12_readsWhat_18 : decode cX12_readsWhat 18 = .ok (.if_icmp .eq 14, 3) := by decide +kernel
theorem dX12_readsWhat_21 : decode cX12_readsWhat 21 = .ok (.aload_n 0, 1) := by decide +kernel
theorem dX12_readsWhat_22 : decode cX12_readsWhat 22 = .ok (.aload_n 0, 1) := by decide +kernel
theorem dX12_readsWhat_23 : decode cX12_readsWhat 23 = .ok (.getfield 29, 3) := by decide +kernel
theorem dX12_readsWhat_26 : decode cX12_readsWhat 26 = .ok (.invokevirtual 246, 3) := by decide +kernel
theorem dX12_readsWhat_29 : decode cX12_readsWhat 29 = .ok (.ifCond .eq 19, 3) := by decide +kernel
theorem dX12_readsWhat_32 : decode cX12_readsWhat 32 = .ok (.aload_n 0, 1) := by decide +kernel
theorem dX12_readsWhat_33 : decode cX12_readsWhat 33 = .ok (.aload_n 0, 1) := by decide +kernel
theorem dX12_readsWhat_34 : decode cX12_readsWhat 34 = .ok (.ldc2_w 308, 3) := by decide +kernel
theorem dX12_readsWhat_37 : decode cX12_readsWhat 37 = .ok (.ldc2_w 288, 3) := by decide +kernel
theorem dX12_readsWhat_40 : decode cX12_readsWhat 40 = .ok (.invokevirtual 302, 3) := by decide +kernel
theorem dX12_readsWhat_43 : decode cX12_readsWhat 43 = .ok (.putfield 96, 3) := by decide +kernel
theorem dX12_readsWhat_46 : decode cX12_readsWhat 46 = .ok (.iconst (-1), 1) := by decide +kernel
theorem dX12_readsWhat_47 : decode cX12_readsWhat 47 = .ok (.ireturn, 1) := by decide +kernel
theorem dX12_readsWhat_48 : decode cX12_readsWhat 48 = .ok (.aload_n 0, 1) := by decide +kernel
theorem dX12_readsWhat_49 : decode cX12_readsWhat 49 = .ok (.invokevirtual 310, 3) := by decide +kernel
theorem dX12_readsWhat_52 : decode cX12_readsWhat 52 = .ok (.ireturn, 1) := by decide +kernel
theorem dX12_readsOp_0 : decode cX12_readsOp 0 = .ok (.aload_n 0, 1) := by decide +kernel
theorem dX12_readsOp_1 : decode cX12_readsOp 1 = .ok (.invokevirtual 231, 3) := by decide +kernel
theorem dX12_readsOp_4 : decode cX12_readsOp 4 = .ok (.ifCond .ne 5, 3) := by decide +kernel
theorem dX12_readsOp_7 : decode cX12_readsOp 7 = .ok (.iconst 0, 1) := by decide +kernel
theorem dX12_readsOp_8 : decode cX12_readsOp 8 = .ok (.ireturn, 1) := by decide +kernel
theorem dX12_readsOp_9 : decode cX12_readsOp 9 = .ok (.aload_n 0, 1) := by decide +kernel
theorem dX12_readsOp_10 : decode cX12_readsOp 10 = .ok (.invokevirtual 235, 3) := by decide +kernel
theorem dX12_readsOp_13 : decode cX12_readsOp 13 = .ok (.istore_n 1, 1) := by decide +kernel
theorem dX12_readsOp_14 : decode cX12_readsOp 14 = .ok (.iload_n 1, 1) := by decide +kernel
theorem dX12_readsOp_15 : decode cX12_readsOp 15 = .ok (.bipush 43, 2) := by decide +kernel
theorem dX12_readsOp_17 : decode cX12_readsOp 17 = .ok (.if_icmp .eq 15, 3) := by decide +kernel
theorem dX12_readsOp_20 : decode cX12_readsOp 20 = .ok (.iload_n 1, 1) := by decide +kernel
theorem dX12_readsOp_21 : decode cX12_readsOp 21 = .ok (.bipush 45, 2) := by decide +kernel
theorem dX12_readsOp_23 : decode cX12_readsOp 23 = .ok (.if_icmp .eq 9, 3) := by decide +kernel
theorem dX12_readsOp_26 : decode cX12_readsOp 26 = .ok (.iload_n 1, 1) := by decide +kernel
theorem dX12_readsOp_27 : decode cX12_readsOp 27 = .ok (.bipush 42, 2) := by decide +kernel
theorem dX12_readsOp_29 : decode cX12_readsOp 29 = .ok (.if_icmp .ne 35, 3) := by decide +kernel
theorem dX12_readsOp_32 : decode cX12_readsOp 32 = .ok (.aload_n 0, 1) := by decide +kernel
theorem dX12_readsOp_33 : decode cX12_readsOp 33 = .ok (.dup, 1) := by decide +kernel
theorem dX12_readsOp_34 : decode cX12_readsOp 34 = .ok (.getfield 29, 3) := by decide +kernel
theorem dX12_readsOp_37 : decode cX12_readsOp 37 = .ok (.iconst 1, 1) := by decide +kernel
theorem dX12_readsOp_38 : decode cX12_readsOp 38 = .ok (.iadd, 1) := by decide +kernel
theorem dX12_readsOp_39 : decode cX12_readsOp 39 = .ok (.putfield 29, 3) := by decide +kernel
theorem dX12_readsOp_42 : decode cX12_readsOp 42 = .ok (.iload_n 1, 1) := by decide +kernel
theorem dX12_readsOp_43 : decode cX12_readsOp 43 = .ok (.bipush 43, 2) := by decide +kernel
theorem dX12_readsOp_45 : decode cX12_readsOp 45 = .ok (.if_icmp .ne 7, 3) := by decide +kernel
theorem dX12_readsOp_48 : decode cX12_readsOp 48 = .ok (.iconst 1, 1) := by decide +kernel
theorem dX12_readsOp_49 : decode cX12_readsOp 49 = .ok (.goto 14, 3) := by decide +kernel
theorem dX12_readsOp_52 : decode cX12_readsOp 52 = .ok (.iload_n 1, 1) := by decide +kernel
theorem dX12_readsOp_53 : decode cX12_readsOp 53 = .ok (.bipush 45, 2) := by decide +kernel
theorem dX12_readsOp_55 : decode cX12_readsOp 55 = .ok (.if_icmp .ne 7, 3) := by decide +kernel
theorem dX12_readsOp_58 : decode cX12_readsOp 58 = .ok (.iconst 2, 1) := by decide +kernel
theorem dX12_readsOp_59 : decode cX12_readsOp 59 = .ok (.goto 4, 3) := by decide +kernel
theorem dX12_readsOp_62 : decode cX12_readsOp 62 = .ok (.iconst 3, 1) := by decide +kernel
theorem dX12_readsOp_63 : decode cX12_readsOp 63 = .ok (.ireturn, 1) := by decide +kernel
theorem dX12_readsOp_64 : decode cX12_readsOp 64 = .ok (.aload_n 0, 1) := by decide +kernel
theorem dX12_readsOp_65 : decode cX12_readsOp 65 = .ok (.invokevirtual 249, 3) := by decide +kernel
theorem dX12_readsOp_68 : decode cX12_readsOp 68 = .ok (.aload_n 0, 1) := by decide +kernel
theorem dX12_readsOp_69 : decode cX12_readsOp 69 = .ok (.invokevirtual 231, 3) := by decide +kernel
theorem dX12_readsOp_72 : decode cX12_readsOp 72 = .ok (.ifCond .eq 10, 3) := by decide +kernel
theorem dX12_readsOp_75 : decode cX12_readsOp 75 = .ok (.aload_n 0, 1) := by decide +kernel
theorem dX12_readsOp_76 : decode cX12_readsOp 76 = .ok (.invokevirtual 252, 3) := by decide +kernel
theorem dX12_readsOp_79 : decode cX12_readsOp 79 = .ok (.goto 4, 3) := by decide +kernel
theorem dX12_readsOp_82 : decode cX12_readsOp 82 = .ok (.iconst (-1), 1) := by decide +kernel
theorem dX12_readsOp_83 : decode cX12_readsOp 83 = .ok (.istore_n 2, 1) := by decide +kernel
theorem dX12_readsOp_84 : decode cX12_readsOp 84 = .ok (.aload_n 0, 1) := by decide +kernel
theorem dX12_readsOp_85 : decode cX12_readsOp 85 = .ok (.invokevirtual 231, 3) := by decide +kernel
theorem dX12_readsOp_88 : decode cX12_readsOp 88 = .ok (.ifCond .eq 24, 3) := by decide +kernel
theorem dX12_readsOp_91 : decode cX12_readsOp 91 = .ok (.iload_n 2, 1) := by decide +kernel
theorem dX12_readsOp_92 : decode cX12_readsOp 92 = .ok (.bipush 7, 2) := by decide +kernel
theorem dX12_readsOp_94 : decode cX12_readsOp 94 = .ok (.if_icmp .eq 18, 3) := by decide +kernel
theorem dX12_readsOp_97 : decode cX12_readsOp 97 = .ok (.iload_n 2, 1) := by decide +kernel
theorem dX12_readsOp_98 : decode cX12_readsOp 98 = .ok (.bipush 8, 2) := by decide +kernel
theorem dX12_readsOp_100 : decode cX12_readsOp 100 = .ok (.if_icmp .eq 12, 3) := by decide +kernel
theorem dX12_readsOp_103 : decode cX12_readsOp 103 = .ok (.aload_n 0, 1) := by decide +kernel
theorem dX12_readsOp_104 : decode cX12_readsOp 104 = .ok (.iconst 1, 1) := by decide +kernel
theorem dX12_readsOp_105 : decode cX12_readsOp 105 = .ok (.aload_n 0, 1) := by decide +kernel
theorem dX12_readsOp_106 : decode cX12_readsOp 106 = .ok (.getfield 32, 3) := by decide +kernel
theorem dX12_readsOp_109 : decode cX12_readsOp 109 = .ok (.invokevirtual 239, 3) := by decide +kernel
theorem dX12_readsOp_112 : decode cX12_readsOp 112 = .ok (.iload_n 2, 1) := by decide +kernel
theorem dX12_readsOp_113 : decode cX12_readsOp 113 = .ok (.bipush 7, 2) := by decide +kernel
theorem dX12_readsOp_115 : decode cX12_readsOp 115 = .ok (.if_icmp .ne 7, 3) := by decide +kernel
theorem dX12_readsOp_118 : decode cX12_readsOp 118 = .ok (.iconst 4, 1) := by decide +kernel
theorem dX12_readsOp_119 : decode cX12_readsOp 119 = .ok (.goto 4, 3) := by decide +kernel
theorem dX12_readsOp_122 : decode cX12_readsOp 122 = .ok (.iconst 5, 1) := by decide +kernel
theorem dX12_readsOp_123 : decode cX12_readsOp 123 = .ok (.ireturn, 1) := by decide +kernel
theorem dX12_readsLet_0 : decode cX12_readsLet 0 = .ok (.aload_n 0, 1) := by decide +kernel
theorem dX12_readsLet_1 : decode cX12_readsLet 1 = .ok (.invokevirtual 282, 3) := by decide +kernel
theorem dX12_readsLet_4 : decode cX12_readsLet 4 = .ok (.istore_n 1, 1) := by decide +kernel
theorem dX12_readsLet_5 : decode cX12_readsLet 5 = .ok (.aload_n 0, 1) := by decide +kernel
theorem dX12_readsLet_6 : decode cX12_readsLet 6 = .ok (.bipush 61, 2) := by decide +kernel
theorem dX12_readsLet_8 : decode cX12_readsLet 8 = .ok (.invokevirtual 313, 3) := by decide +kernel
theorem dX12_readsLet_11 : decode cX12_readsLet 11 = .ok (.aload_n 0, 1) := by decide +kernel
theorem dX12_readsLet_12 : decode cX12_readsLet 12 = .ok (.invokevirtual 316, 3) := by decide +kernel
theorem dX12_readsLet_15 : decode cX12_readsLet 15 = .ok (.istore_n 2, 1) := by decide +kernel
theorem dX12_readsLet_16 : decode cX12_readsLet 16 = .ok (.aload_n 0, 1) := by decide +kernel
theorem dX12_readsLet_17 : decode cX12_readsLet 17 = .ok (.getfield 96, 3) := by decide +kernel
theorem dX12_readsLet_20 : decode cX12_readsLet 20 = .ok (.lstore_n 3, 1) := by decide +kernel
theorem dX12_readsLet_21 : decode cX12_readsLet 21 = .ok (.aload_n 0, 1) := by decide +kernel
theorem dX12_readsLet_22 : decode cX12_readsLet 22 = .ok (.invokevirtual 319, 3) := by decide +kernel
theorem dX12_readsLet_25 : decode cX12_readsLet 25 = .ok (.istore 5, 2) := by decide +kernel
theorem dX12_readsLet_27 : decode cX12_readsLet 27 = .ok (.aload_n 0, 1) := by decide +kernel
theorem dX12_readsLet_28 : decode cX12_readsLet 28 = .ok (.invokevirtual 316, 3) := by decide +kernel
theorem dX12_readsLet_31 : decode cX12_readsLet 31 = .ok (.istore 6, 2) := by decide +kernel
theorem dX12_readsLet_33 : decode cX12_readsLet 33 = .ok (.aload_n 0, 1) := by decide +kernel
theorem dX12_readsLet_34 : decode cX12_readsLet 34 = .ok (.getfield 96, 3) := by decide +kernel
theorem dX12_readsLet_37 : decode cX12_readsLet 37 = .ok (.lstore 7, 2) := by decide +kernel
theorem dX12_readsLet_39 : decode cX12_readsLet 39 = .ok (.aload_n 0, 1) := by decide +kernel
theorem dX12_readsLet_40 : decode cX12_readsLet 40 = .ok (.invokevirtual 231, 3) := by decide +kernel
theorem dX12_readsLet_43 : decode cX12_readsLet 43 = .ok (.ifCond .ne 4, 3) := by decide +kernel
theorem dX12_readsLet_46 : decode cX12_readsLet 46 = .ok (.return_, 1) := by decide +kernel
theorem dX12_readsLet_47 : decode cX12_readsLet 47 = .ok (.aload_n 0, 1) := by decide +kernel
theorem dX12_readsLet_48 : decode cX12_readsLet 48 = .ok (.iload_n 1, 1) := by decide +kernel
theorem dX12_readsLet_49 : decode cX12_readsLet 49 = .ok (.iload 5, 2) := by decide +kernel
theorem dX12_readsLet_51 : decode cX12_readsLet 51 = .ok (.invokevirtual 305, 3) := by decide +kernel
theorem dX12_readsLet_54 : decode cX12_readsLet 54 = .ok (.aload_n 0, 1) := by decide +kernel
theorem dX12_readsLet_55 : decode cX12_readsLet 55 = .ok (.aload_n 0, 1) := by decide +kernel
theorem dX12_readsLet_56 : decode cX12_readsLet 56 = .ok (.getfield 62, 3) := by decide +kernel
theorem dX12_readsLet_59 : decode cX12_readsLet 59 = .ok (.aload_n 0, 1) := by decide +kernel
theorem dX12_readsLet_60 : decode cX12_readsLet 60 = .ok (.getfield 44, 3) := by decide +kernel
theorem dX12_readsLet_63 : decode cX12_readsLet 63 = .ok (.iaload, 1) := by decide +kernel
theorem dX12_readsLet_64 : decode cX12_readsLet 64 = .ok (.invokevirtual 270, 3) := by decide +kernel
theorem dX12_readsLet_67 : decode cX12_readsLet 67 = .ok (.istore 9, 2) := by decide +kernel
theorem dX12_readsLet_69 : decode cX12_readsLet 69 = .ok (.aload_n 0, 1) := by decide +kernel
theorem dX12_readsLet_70 : decode cX12_readsLet 70 = .ok (.getfield 71, 3) := by decide +kernel
theorem dX12_readsLet_73 : decode cX12_readsLet 73 = .ok (.iload 9, 2) := by decide +kernel
theorem dX12_readsLet_75 : decode cX12_readsLet 75 = .ok (.iload_n 2, 1) := by decide +kernel
theorem dX12_readsLet_76 : decode cX12_readsLet 76 = .ok (.iastore, 1) := by decide +kernel
theorem dX12_readsLet_77 : decode cX12_readsLet 77 = .ok (.aload_n 0, 1) := by decide +kernel
theorem dX12_readsLet_78 : decode cX12_readsLet 78 = .ok (.getfield 77, 3) := by decide +kernel
theorem dX12_readsLet_81 : decode cX12_readsLet 81 = .ok (.iload 9, 2) := by decide +kernel
theorem dX12_readsLet_83 : decode cX12_readsLet 83 = .ok (.lload_n 3, 1) := by decide +kernel
theorem dX12_readsLet_84 : decode cX12_readsLet 84 = .ok (.lastore, 1) := by decide +kernel
theorem dX12_readsLet_85 : decode cX12_readsLet 85 = .ok (.aload_n 0, 1) := by decide +kernel
theorem dX12_readsLet_86 : decode cX12_readsLet 86 = .ok (.getfield 74, 3) := by decide +kernel
theorem dX12_readsLet_89 : decode cX12_readsLet 89 = .ok (.iload 9, 2) := by decide +kernel
theorem dX12_readsLet_91 : decode cX12_readsLet 91 = .ok (.iload 6, 2) := by decide +kernel
theorem dX12_readsLet_93 : decode cX12_readsLet 93 = .ok (.iastore, 1) := by decide +kernel
theorem dX12_readsLet_94 : decode cX12_readsLet 94 = .ok (.aload_n 0, 1) := by decide +kernel
theorem dX12_readsLet_95 : decode cX12_readsLet 95 = .ok (.getfield 81, 3) := by decide +kernel
theorem dX12_readsLet_98 : decode cX12_readsLet 98 = .ok (.iload 9, 2) := by decide +kernel
theorem dX12_readsLet_100 : decode cX12_readsLet 100 = .ok (.lload 7, 2) := by decide +kernel
theorem dX12_readsLet_102 : decode cX12_readsLet 102 = .ok (.lastore, 1) := by decide +kernel
theorem dX12_readsLet_103 : decode cX12_readsLet 103 = .ok (.aload_n 0, 1) := by decide +kernel
theorem dX12_readsLet_104 : decode cX12_readsLet 104 = .ok (.getfield 62, 3) := by decide +kernel
theorem dX12_readsLet_107 : decode cX12_readsLet 107 = .ok (.aload_n 0, 1) := by decide +kernel
theorem dX12_readsLet_108 : decode cX12_readsLet 108 = .ok (.getfield 44, 3) := by decide +kernel
theorem dX12_readsLet_111 : decode cX12_readsLet 111 = .ok (.dup2, 1) := by decide +kernel
theorem dX12_readsLet_112 : decode cX12_readsLet 112 = .ok (.iaload, 1) := by decide +kernel
theorem dX12_readsLet_113 : decode cX12_readsLet 113 = .ok (.iconst 1, 1) := by decide +kernel
theorem dX12_readsLet_114 : decode cX12_readsLet 114 = .ok (.iadd, 1) := by decide +kernel
theorem dX12_readsLet_115 : decode cX12_readsLet 115 = .ok (.iastore, 1) := by decide +kernel
theorem dX12_readsLet_116 : decode cX12_readsLet 116 = .ok (.return_, 1) := by decide +kernel
theorem dX12_readsFixed_0 : decode cX12_readsFixed 0 = .ok (.aload_n 0, 1) := by decide +kernel
theorem dX12_readsFixed_1 : decode cX12_readsFixed 1 = .ok (.invokevirtual 310, 3) := by decide +kernel
theorem dX12_readsFixed_4 : decode cX12_readsFixed 4 = .ok (.istore_n 1, 1) := by decide +kernel
theorem dX12_readsFixed_5 : decode cX12_readsFixed 5 = .ok (.aload_n 0, 1) := by decide +kernel
theorem dX12_readsFixed_6 : decode cX12_readsFixed 6 = .ok (.invokevirtual 273, 3) := by decide +kernel
theorem dX12_readsFixed_9 : decode cX12_readsFixed 9 = .ok (.istore_n 2, 1) := by decide +kernel
theorem dX12_readsFixed_10 : decode cX12_readsFixed 10 = .ok (.aload_n 0, 1) := by decide +kernel
theorem dX12_readsFixed_11 : decode cX12_readsFixed 11 = .ok (.invokevirtual 231, 3) := by decide +kernel
theorem dX12_readsFixed_14 : decode cX12_readsFixed 14 = .ok (.ifCond .eq 11, 3) := by decide +kernel
theorem dX12_readsFixed_17 : decode cX12_readsFixed 17 = .ok (.aload_n 0, 1) := by decide +kernel
theorem dX12_readsFixed_18 : decode cX12_readsFixed 18 = .ok (.iload_n 2, 1) := by decide +kernel
theorem dX12_readsFixed_19 : decode cX12_readsFixed 19 = .ok (.invokevirtual 276, 3) := by decide +kernel
theorem dX12_readsFixed_22 : decode cX12_readsFixed 22 = .ok (.goto 4, 3) := by decide +kernel
theorem dX12_readsFixed_25 : decode cX12_readsFixed 25 = .ok (.iconst 0, 1) := by decide +kernel
theorem dX12_readsFixed_26 : decode cX12_readsFixed 26 = .ok (.istore_n 3, 1) := by decide +kernel
theorem dX12_readsFixed_27 : decode cX12_readsFixed 27 = .ok (.aload_n 0, 1) := by decide +kernel
theorem dX12_readsFixed_28 : decode cX12_readsFixed 28 = .ok (.invokevirtual 231, 3) := by decide +kernel
theorem dX12_readsFixed_31 : decode cX12_readsFixed 31 = .ok (.ifCond .eq 17, 3) := by decide +kernel
theorem dX12_readsFixed_34 : decode cX12_readsFixed 34 = .ok (.iload_n 3, 1) := by decide +kernel
theorem dX12_readsFixed_35 : decode cX12_readsFixed 35 = .ok (.iconst (-1), 1) := by decide +kernel
theorem dX12_readsFixed_36 : decode cX12_readsFixed 36 = .ok (.if_icmp .ne 12, 3) := by decide +kernel
theorem dX12_readsFixed_39 : decode cX12_readsFixed 39 = .ok (.aload_n 0, 1) := by decide +kernel
theorem dX12_readsFixed_40 : decode cX12_readsFixed 40 = .ok (.iconst 3, 1) := by decide +kernel
theorem dX12_readsFixed_41 : decode cX12_readsFixed 41 = .ok (.aload_n 0, 1) := by decide +kernel
theorem dX12_readsFixed_42 : decode cX12_readsFixed 42 = .ok (.getfield 32, 3) := by decide +kernel
theorem dX12_readsFixed_45 : decode cX12_readsFixed 45 = .ok (.invokevirtual 239, 3) := by decide +kernel
theorem dX12_readsFixed_48 : decode cX12_readsFixed 48 = .ok (.aload_n 0, 1) := by decide +kernel
theorem dX12_readsFixed_49 : decode cX12_readsFixed 49 = .ok (.invokevirtual 231, 3) := by decide +kernel
theorem dX12_readsFixed_52 : decode cX12_readsFixed 52 = .ok (.ifCond .eq 14, 3) := by decide +kernel
theorem dX12_readsFixed_55 : decode cX12_readsFixed 55 = .ok (.aload_n 0, 1) := by decide +kernel
theorem dX12_readsFixed_56 : decode cX12_readsFixed 56 = .ok (.getfield 87, 3) := by decide +kernel
theorem dX12_readsFixed_59 : decode cX12_readsFixed 59 = .ok (.aload_n 0, 1) := by decide +kernel
theorem dX12_readsFixed_60 : decode cX12_readsFixed 60 = .ok (.iload_n 1, 1) := by decide +kernel
theorem dX12_readsFixed_61 : decode cX12_readsFixed 61 = .ok (.invokevirtual 270, 3) := by decide +kernel
theorem dX12_readsFixed_64 : decode cX12_readsFixed 64 = .ok (.iload_n 3, 1) := by decide +kernel
theorem dX12_readsFixed_65 : decode cX12_readsFixed 65 = .ok (.iastore, 1) := by decide +kernel
theorem dX12_readsFixed_66 : decode cX12_readsFixed 66 = .ok (.return_, 1) := by decide +kernel
theorem dX12_readsGroup_0 : decode cX12_readsGroup 0 = .ok (.aload_n 0, 1) := by decide +kernel
theorem dX12_readsGroup_1 : decode cX12_readsGroup 1 = .ok (.invokevirtual 310, 3) := by decide +kernel
theorem dX12_readsGroup_4 : decode cX12_readsGroup 4 = .ok (.istore_n 1, 1) := by decide +kernel
theorem dX12_readsGroup_5 : decode cX12_readsGroup 5 = .ok (.aload_n 0, 1) := by decide +kernel
theorem dX12_readsGroup_6 : decode cX12_readsGroup 6 = .ok (.invokevirtual 310, 3) := by decide +kernel
theorem dX12_readsGroup_9 : decode cX12_readsGroup 9 = .ok (.istore_n 2, 1) := by decide +kernel
theorem dX12_readsGroup_10 : decode cX12_readsGroup 10 = .ok (.aload_n 0, 1) := by decide +kernel
theorem dX12_readsGroup_11 : decode cX12_readsGroup 11 = .ok (.invokevirtual 231, 3) := by decide +kernel
theorem dX12_readsGroup_14 : decode cX12_readsGroup 14 = .ok (.ifCond .eq 17, 3) := by decide +kernel
theorem dX12_readsGroup_17 : decode cX12_readsGroup 17 = .ok (.iload_n 1, 1) := by decide +kernel
theorem dX12_readsGroup_18 : decode cX12_readsGroup 18 = .ok (.iload_n 2, 1) := by decide +kernel
theorem dX12_readsGroup_19 : decode cX12_readsGroup 19 = .ok (.if_icmp .ne 12, 3) := by decide +kernel
theorem dX12_readsGroup_22 : decode cX12_readsGroup 22 = .ok (.aload_n 0, 1) := by decide +kernel
theorem dX12_readsGroup_23 : decode cX12_readsGroup 23 = .ok (.iconst 3, 1) := by decide +kernel
theorem dX12_readsGroup_24 : decode cX12_readsGroup 24 = .ok (.aload_n 0, 1) := by decide +kernel
theorem dX12_readsGroup_25 : decode cX12_readsGroup 25 = .ok (.getfield 32, 3) := by decide +kernel
theorem dX12_readsGroup_28 : decode cX12_readsGroup 28 = .ok (.invokevirtual 239, 3) := by decide +kernel
theorem dX12_readsGroup_31 : decode cX12_readsGroup 31 = .ok (.aload_n 0, 1) := by decide +kernel
theorem dX12_readsGroup_32 : decode cX12_readsGroup 32 = .ok (.invokevirtual 231, 3) := by decide +kernel
theorem dX12_readsGroup_35 : decode cX12_readsGroup 35 = .ok (.ifCond .ne 4, 3) := by decide +kernel
theorem dX12_readsGroup_38 : decode cX12_readsGroup 38 = .ok (.return_, 1) := by decide +kernel
theorem dX12_readsGroup_39 : decode cX12_readsGroup 39 = .ok (.aload_n 0, 1) := by decide +kernel
theorem dX12_readsGroup_40 : decode cX12_readsGroup 40 = .ok (.getfield 93, 3) := by decide +kernel
theorem dX12_readsGroup_43 : decode cX12_readsGroup 43 = .ok (.aload_n 0, 1) := by decide +kernel
theorem dX12_readsGroup_44 : decode cX12_readsGroup 44 = .ok (.iload_n 1, 1) := by decide +kernel
theorem dX12_readsGroup_45 : decode cX12_readsGroup 45 = .ok (.invokevirtual 270, 3) := by decide +kernel
theorem dX12_readsGroup_48 : decode cX12_readsGroup 48 = .ok (.iaload, 1) := by decide +kernel
theorem dX12_readsGroup_49 : decode cX12_readsGroup 49 = .ok (.istore_n 3, 1) := by decide +kernel
theorem dX12_readsGroup_50 : decode cX12_readsGroup 50 = .ok (.aload_n 0, 1) := by decide +kernel
theorem dX12_readsGroup_51 : decode cX12_readsGroup 51 = .ok (.getfield 93, 3) := by decide +kernel
theorem dX12_readsGroup_54 : decode cX12_readsGroup 54 = .ok (.aload_n 0, 1) := by decide +kernel
theorem dX12_readsGroup_55 : decode cX12_readsGroup 55 = .ok (.iload_n 2, 1) := by decide +kernel
theorem dX12_readsGroup_56 : decode cX12_readsGroup 56 = .ok (.invokevirtual 270, 3) := by decide +kernel
theorem dX12_readsGroup_59 : decode cX12_readsGroup 59 = .ok (.iaload, 1) := by decide +kernel
theorem dX12_readsGroup_60 : decode cX12_readsGroup 60 = .ok (.istore 4, 2) := by decide +kernel
theorem dX12_readsGroup_62 : decode cX12_readsGroup 62 = .ok (.iload_n 3, 1) := by decide +kernel
theorem dX12_readsGroup_63 : decode cX12_readsGroup 63 = .ok (.i2l, 1) := by decide +kernel
theorem dX12_readsGroup_64 : decode cX12_readsGroup 64 = .ok (.iload 4, 2) := by decide +kernel
theorem dX12_readsGroup_66 : decode cX12_readsGroup 66 = .ok (.i2l, 1) := by decide +kernel
theorem dX12_readsGroup_67 : decode cX12_readsGroup 67 = .ok (.invokestatic 322, 3) := by decide +kernel
theorem dX12_readsGroup_70 : decode cX12_readsGroup 70 = .ok (.l2i, 1) := by decide +kernel
theorem dX12_readsGroup_71 : decode cX12_readsGroup 71 = .ok (.istore 5, 2) := by decide +kernel
theorem dX12_readsGroup_73 : decode cX12_readsGroup 73 = .ok (.iconst 0, 1) := by decide +kernel
theorem dX12_readsGroup_74 : decode cX12_readsGroup 74 = .ok (.istore 6, 2) := by decide +kernel
theorem dX12_readsGroup_76 : decode cX12_readsGroup 76 = .ok (.iload 6, 2) := by decide +kernel
theorem dX12_readsGroup_78 : decode cX12_readsGroup 78 = .ok (.aload_n 0, 1) := by decide +kernel
theorem dX12_readsGroup_79 : decode cX12_readsGroup 79 = .ok (.getfield 62, 3) := by decide +kernel
theorem dX12_readsGroup_82 : decode cX12_readsGroup 82 = .ok (.aload_n 0, 1) := by decide +kernel
theorem dX12_readsGroup_83 : decode cX12_readsGroup 83 = .ok (.getfield 44, 3) := by decide +kernel
theorem dX12_readsGroup_86 : decode cX12_readsGroup 86 = .ok (.iaload, 1) := by decide +kernel
theorem dX12_readsGroup_87 : decode cX12_readsGroup 87 = .ok (.if_icmp .ge 53, 3) := by decide +kernel
theorem dX12_readsGroup_90 : decode cX12_readsGroup 90 = .ok (.aload_n 0, 1) := by decide +kernel
theorem dX12_readsGroup_91 : decode cX12_readsGroup 91 = .ok (.getfield 93, 3) := by decide +kernel
theorem dX12_readsGroup_94 : decode cX12_readsGroup 94 = .ok (.aload_n 0, 1) := by decide +kernel
theorem dX12_readsGroup_95 : decode cX12_readsGroup 95 = .ok (.iload 6, 2) := by decide +kernel
theorem dX12_readsGroup_97 : decode cX12_readsGroup 97 = .ok (.invokevirtual 270, 3) := by decide +kernel
theorem dX12_readsGroup_100 : decode cX12_readsGroup 100 = .ok (.iaload, 1) := by decide +kernel
theorem dX12_readsGroup_101 : decode cX12_readsGroup 101 = .ok (.iload_n 3, 1) := by decide +kernel
theorem dX12_readsGroup_102 : decode cX12_readsGroup 102 = .ok (.if_icmp .eq 19, 3) := by decide +kernel
theorem dX12_readsGroup_105 : decode cX12_readsGroup 105 = .ok (.aload_n 0, 1) := by decide +kernel
theorem dX12_readsGroup_106 : decode cX12_readsGroup 106 = .ok (.getfield 93, 3) := by decide +kernel
theorem dX12_readsGroup_109 : decode cX12_readsGroup 109 = .ok (.aload_n 0, 1) := by decide +kernel
theorem dX12_readsGroup_110 : decode cX12_readsGroup 110 = .ok (.iload 6, 2) := by decide +kernel
theorem dX12_readsGroup_112 : decode cX12_readsGroup 112 = .ok (.invokevirtual 270, 3) := by decide +kernel
theorem dX12_readsGroup_115 : decode cX12_readsGroup 115 = .ok (.iaload, 1) := by decide +kernel
theorem dX12_readsGroup_116 : decode cX12_readsGroup 116 = .ok (.iload 4, 2) := by decide +kernel
theorem dX12_readsGroup_118 : decode cX12_readsGroup 118 = .ok (.if_icmp .ne 16, 3) := by decide +kernel
theorem dX12_readsGroup_121 : decode cX12_readsGroup 121 = .ok (.aload_n 0, 1) := by decide +kernel
theorem dX12_readsGroup_122 : decode cX12_readsGroup 122 = .ok (.getfield 93, 3) := by decide +kernel
theorem dX12_readsGroup_125 : decode cX12_readsGroup 125 = .ok (.aload_n 0, 1) := by decide +kernel
theorem dX12_readsGroup_126 : decode cX12_readsGroup 126 = .ok (.iload 6, 2) := by decide +kernel
theorem dX12_readsGroup_128 : decode cX12_readsGroup 128 = .ok (.invokevirtual 270, 3) := by decide +kernel
theorem dX12_readsGroup_131 : decode cX12_readsGroup 131 = .ok (.iload 5, 2) := by decide +kernel
theorem dX12_readsGroup_133 : decode cX12_readsGroup 133 = .ok (.iastore, 1) := by decide +kernel
