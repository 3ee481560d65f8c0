theorem dJ0_coder_7d493_0 : decode cJ0_coder_7d493 0 = .ok (.getstatic 38, 3) := by decide +kernel
theorem dJ0_coder_7d493_3 : decode cJ0_coder_7d493 3 = .ok (.ifCond .eq 10, 3) := by decide +kernel
theorem dJ0_coder_7d493_6 : decode cJ0_coder_7d493 6 = .ok (.aload_n 0, 1) := by decide +kernel
theorem dJ0_coder_7d493_7 : decode cJ0_coder_7d493 7 = .ok (.getfield 15, 3) := by decide +kernel
theorem dJ0_coder_7d493_10 : decode cJ0_coder_7d493 10 = .ok (.goto 4, 3) := by decide +kernel
theorem dJ0_coder_7d493_14 : decode cJ0_coder_7d493 14 = .ok (.ireturn, 1) := by decide +kernel
theorem dJ0_length_8abf5_0 : decode cJ0_length_8abf5 0 = .ok (.aload_n 0, 1) := by decide +kernel
theorem dJ0_length_8abf5_1 : decode cJ0_length_8abf5 1 = .ok (.getfield 9, 3) := by decide +kernel
theorem dJ0_length_8abf5_4 : decode cJ0_length_8abf5 4 = .ok (.arraylength, 1) := by decide +kernel
theorem dJ0_length_8abf5_5 : decode cJ0_length_8abf5 5 = .ok (.aload_n 0, 1) := by decide +kernel
theorem dJ0_length_8abf5_6 : decode cJ0_length_8abf5 6 = .ok (.invokevirtual 335, 3) := by decide +kernel
theorem dJ0_length_8abf5_9 : decode cJ0_length_8abf5 9 = .ok (.ishr, 1) := by decide +kernel
theorem dJ0_length_8abf5_10 : decode cJ0_length_8abf5 10 = .ok (.ireturn, 1) := by decide +kernel
theorem dX12_in_0 : decode cX12_in 0 = .ok (.lload_n 0, 1) := by decide +kernel
theorem dX12_in_1 : decode cX12_in 1 = .ok (.lload_n 2, 1) := by decide +kernel
theorem dX12_in_2 : decode cX12_in 2 = .ok (.lcmp, 1) := by decide +kernel
theorem dX12_in_3 : decode cX12_in 3 = .ok (.ifCond .lt 14, 3) := by decide +kernel
theorem dX12_in_17 : decode cX12_in 17 = .ok (.iconst 0, 1) := by decide +kernel
theorem dX12_in_18 : decode cX12_in 18 = .ok (.ireturn, 1) := by decide +kernel
theorem dX12_in_6 : decode cX12_in 6 = .ok (.lload_n 0, 1) := by decide +kernel
theorem dX12_in_7 : decode cX12_in 7 = .ok (.lload 4, 2) := by decide +kernel
theorem dX12_in_9 : decode cX12_in 9 = .ok (.lcmp, 1) := by decide +kernel
theorem dX12_in_10 : decode cX12_in 10 = .ok (.ifCond .gt 7, 3) := by decide +kernel
theorem dX12_in_13 : decode cX12_in 13 = .ok (.iconst 1, 1) := by decide +kernel
theorem dX12_in_14 : decode cX12_in 14 = .ok (.goto 4, 3) := by decide +kernel
theorem dX12_isCloth_0 : decode cX12_isCloth 0 = .ok (.iload_n 0, 1) := by decide +kernel
theorem dX12_isCloth_1 : decode cX12_isCloth 1 = .ok (.i2l, 1) := by decide +kernel
theorem dX12_isCloth_2 : decode cX12_isCloth 2 = .ok (.lconst 0, 1) := by decide +kernel
theorem dX12_isCloth_3 : decode cX12_isCloth 3 = .ok (.ldc2_w 90, 3) := by decide +kernel
theorem dX12_isCloth_6 : decode cX12_isCloth 6 = .ok (.invokestatic 79, 3) := by decide +kernel
theorem dX12_isCloth_9 : decode cX12_isCloth 9 = .ok (.ireturn, 1) := by decide +kernel
theorem dX12_isWay_0 : decode cX12_isWay 0 = .ok (.iload_n 0, 1) := by decide +kernel
theorem dX12_isWay_1 : decode cX12_isWay 1 = .ok (.i2l, 1) := by decide +kernel
theorem dX12_isWay_2 : decode cX12_isWay 2 = .ok (.lconst 0, 1) := by decide +kernel
theorem dX12_isWay_3 : decode cX12_isWay 3 = .ok (.ldc2_w 92, 3) := by decide +kernel
theorem dX12_isWay_6 : decode cX12_isWay 6 = .ok (.invokestatic 79, 3) := by decide +kernel
theorem dX12_isWay_9 : decode cX12_isWay 9 = .ok (.ireturn, 1) := by decide +kernel
theorem dX12_isSlot_0 : decode cX12_isSlot 0 = .ok (.iload_n 0, 1) := by decide +kernel
theorem dX12_isSlot_1 : decode cX12_isSlot 1 = .ok (.i2l, 1) := by decide +kernel
theorem dX12_isSlot_2 : decode cX12_isSlot 2 = .ok (.lconst 0, 1) := by decide +kernel
theorem dX12_isSlot_3 : decode cX12_isSlot 3 = .ok (.ldc2_w 90, 3) := by decide +kernel
theorem dX12_isSlot_6 : decode cX12_isSlot 6 = .ok (.invokestatic 79, 3) := by decide +kernel
theorem dX12_isSlot_9 : decode cX12_isSlot 9 = .ok (.ireturn, 1) := by decide +kernel
theorem dX12_isSeed_0 : decode cX12_isSeed 0 = .ok (.iload_n 0, 1) := by decide +kernel
theorem dX12_isSeed_1 : decode cX12_isSeed 1 = .ok (.i2l, 1) := by decide +kernel
theorem dX12_isSeed_2 : decode cX12_isSeed 2 = .ok (.lconst 0, 1) := by decide +kernel
theorem dX12_isSeed_3 : decode cX12_isSeed 3 = .ok (.ldc2_w 317, 3) := by decide +kernel
theorem dX12_isSeed_6 : decode cX12_isSeed 6 = .ok (.invokestatic 79, 3) := by decide +kernel
theorem dX12_isSeed_9 : decode cX12_isSeed 9 = .ok (.ireturn, 1) := by decide +kernel
theorem dX12_isThere_0 : decode cX12_isThere 0 = .ok (.aload_n 0, 1) := by decide +kernel
theorem dX12_isThere_1 : decode cX12_isThere 1 = .ok (.getfield 13, 3) := by decide +kernel
theorem dX12_isThere_4 : decode cX12_isThere 4 = .ok (.sipush 1048, 3) := by decide +kernel
theorem dX12_isThere_7 : decode cX12_isThere 7 = .ok (.sipush 257, 3) := by decide +kernel
theorem dX12_isThere_10 : decode cX12_isThere 10 = .ok (.iload_n 1, 1) := by decide +kernel
theorem dX12_isThere_11 : decode cX12_isThere 11 = .ok (.imul, 1) := by decide +kernel
theorem dX12_isThere_12 : decode cX12_isThere 12 = .ok (.iadd, 1) := by decide +kernel
theorem dX12_isThere_13 : decode cX12_isThere 13 = .ok (.iaload, 1) := by decide +kernel
theorem dX12_isThere_14 : decode cX12_isThere 14 = .ok (.iconst 1, 1) := by decide +kernel
theorem dX12_isThere_15 : decode cX12_isThere 15 = .ok (.if_icmp .ne 7, 3) := by decide +kernel
theorem dX12_isThere_22 : decode cX12_isThere 22 = .ok (.iconst 0, 1) := by decide +kernel
theorem dX12_isThere_23 : decode cX12_isThere 23 = .ok (.ireturn, 1) := by decide +kernel
theorem dX12_ofWay_0 : decode cX12_ofWay 0 = .ok (.aload_n 0, 1) := by decide +kernel
theorem dX12_ofWay_1 : decode cX12_ofWay 1 = .ok (.getfield 13, 3) := by decide +kernel
theorem dX12_ofWay_4 : decode cX12_ofWay 4 = .ok (.bipush 120, 2) := by decide +kernel
theorem dX12_ofWay_6 : decode cX12_ofWay 6 = .ok (.bipush 7, 2) := by decide +kernel
theorem dX12_ofWay_8 : decode cX12_ofWay 8 = .ok (.iload_n 1, 1) := by decide +kernel
theorem dX12_ofWay_9 : decode cX12_ofWay 9 = .ok (.imul, 1) := by decide +kernel
theorem dX12_ofWay_10 : decode cX12_ofWay 10 = .ok (.iadd, 1) := by decide +kernel
theorem dX12_ofWay_11 : decode cX12_ofWay 11 = .ok (.iload_n 2, 1) := by decide +kernel
theorem dX12_ofWay_12 : decode cX12_ofWay 12 = .ok (.iadd, 1) := by decide +kernel
theorem dX12_ofWay_13 : decode cX12_ofWay 13 = .ok (.iaload, 1) := by decide +kernel
theorem dX12_ofWay_14 : decode cX12_ofWay 14 = .ok (.ireturn, 1) := by decide +kernel
theorem dX12_isTold_0 : decode cX12_isTold 0 = .ok (.aload_n 0, 1) := by decide +kernel
theorem dX12_isTold_1 : decode cX12_isTold 1 = .ok (.iload_n 1, 1) := by decide +kernel
theorem dX12_isTold_2 : decode cX12_isTold 2 = .ok (.iconst 0, 1) := by decide +kernel
theorem dX12_isTold_3 : decode cX12_isTold 3 = .ok (.invokevirtual 94, 3) := by decide +kernel
theorem dX12_isTold_6 : decode cX12_isTold 6 = .ok (.iconst 1, 1) := by decide +kernel
theorem dX12_isTold_7 : decode cX12_isTold 7 = .ok (.if_icmp .ne 7, 3) := by decide +kernel
theorem dX12_isTold_14 : decode cX12_isTold 14 = .ok (.iconst 0, 1) := by decide +kernel
theorem dX12_isTold_15 : decode cX12_isTold 15 = .ok (.ireturn, 1) := by decide +kernel
theorem dX12_asks_0 : decode cX12_asks 0 = .ok (.iload_n 1, 1) := by decide +kernel
theorem dX12_asks_1 : decode cX12_asks 1 = .ok (.invokestatic 319, 3) := by decide +kernel
theorem dX12_asks_4 : decode cX12_asks 4 = .ok (.ifCond .eq 10, 3) := by decide +kernel
theorem dX12_asks_14 : decode cX12_asks 14 = .ok (.bipush (-2), 2) := by decide +kernel
theorem dX12_asks_16 : decode cX12_asks 16 = .ok (.goto 25, 3) := by decide +kernel
theorem dX12_asks_41 : decode cX12_asks 41 = .ok (.ireturn, 1) := by decide +kernel
theorem dX12_asks_7 : decode cX12_asks 7 = .ok (.iload_n 2, 1) := by decide +kernel
theorem dX12_asks_8 : decode cX12_asks 8 = .ok (.invokestatic 221, 3) := by decide +kernel
theorem dX12_asks_11 : decode cX12_asks 11 = .ok (.ifCond .ne 8, 3) := by decide +kernel
theorem dX12_asks_19 : decode cX12_asks 19 = .ok (.aload_n 0, 1) := by decide +kernel
theorem dX12_asks_20 : decode cX12_asks 20 = .ok (.iload_n 1, 1) := by decide +kernel
theorem dX12_asks_21 : decode cX12_asks 21 = .ok (.invokevirtual 351, 3) := by decide +kernel
theorem dX12_asks_24 : decode cX12_asks 24 = .ok (.ifCond .eq 11, 3) := by decide +kernel
theorem dX12_asks_35 : decode cX12_asks 35 = .ok (.bipush (-6), 2) := by decide +kernel
theorem dX12_asks_37 : decode cX12_asks 37 = .ok (.goto 4, 3) := by decide +kernel
theorem dX12_asksCloth_0 : decode cX12_asksCloth 0 = .ok (.iload_n 1, 1) := by decide +kernel
theorem dX12_asksCloth_1 : decode cX12_asksCloth 1 = .ok (.invokestatic 319, 3) := by decide +kernel
theorem dX12_asksCloth_4 : decode cX12_asksCloth 4 = .ok (.ifCond .ne 8, 3) := by decide +kernel
theorem dX12_asksCloth_12 : decode cX12_asksCloth 12 = .ok (.aload_n 0, 1) := by decide +kernel
theorem dX12_asksCloth_13 : decode cX12_asksCloth 13 = .ok (.iload_n 1, 1) := by decide +kernel
theorem dX12_asksCloth_14 : decode cX12_asksCloth 14 = .ok (.invokevirtual 351, 3) := by decide +kernel
theorem dX12_asksCloth_17 : decode cX12_asksCloth 17 = .ok (.ifCond .eq 7, 3) := by decide +kernel
theorem dX12_asksCloth_24 : decode cX12_asksCloth 24 = .ok (.bipush (-6), 2) := by decide +kernel
theorem dX12_asksCloth_26 : decode cX12_asksCloth 26 = .ok (.ireturn, 1) := by decide +kernel
theorem dX12_asksCloth_7 : decode cX12_asksCloth 7 = .ok (.bipush (-2), 2) := by decide +kernel
theorem dX12_asksCloth_9 : decode cX12_asksCloth 9 = .ok (.goto 17, 3) := by decide +kernel
theorem dX12_asksWay_0 : decode cX12_asksWay 0 = .ok (.iload_n 1, 1) := by decide +kernel
theorem dX12_asksWay_1 : decode cX12_asksWay 1 = .ok (.invokestatic 221, 3) := by decide +kernel
theorem dX12_asksWay_4 : decode cX12_asksWay 4 = .ok (.ifCond .ne 8, 3) := by decide +kernel
theorem dX12_asksWay_12 : decode cX12_asksWay 12 = .ok (.aload_n 0, 1) := by decide +kernel
theorem dX12_asksWay_13 : decode cX12_asksWay 13 = .ok (.iload_n 1, 1) := by decide +kernel
theorem dX12_asksWay_14 : decode cX12_asksWay 14 = .ok (.invokevirtual 354, 3) := by decide +kernel
theorem dX12_asksWay_17 : decode cX12_asksWay 17 = .ok (.ifCond .eq 7, 3) := by decide +kernel
theorem dX12_asksWay_24 : decode cX12_asksWay 24 = .ok (.bipush (-6), 2) := by decide +kernel
theorem dX12_asksWay_26 : decode cX12_asksWay 26 = .ok (.ireturn, 1) := by decide +kernel
theorem dX12_asksWay_7 : decode cX12_asksWay 7 = .ok (.bipush (-2), 2) := by decide +kernel
theorem dX12_asksWay_9 : decode cX12_asksWay 9 = .ok (.goto 17, 3) := by decide +kernel
theorem dX12_asksTwo_0 : decode cX12_asksTwo 0 = .ok (.iload_n 1, 1) := by decide +kernel
theorem dX12_asksTwo_1 : decode cX12_asksTwo 1 = .ok (.invokestatic 319, 3) := by decide +kernel
theorem dX12_asksTwo_4 : decode cX12_asksTwo 4 = .ok (.ifCond .eq 10, 3) := by decide +kernel
theorem dX12_asksTwo_14 : decode cX12_asksTwo 14 = .ok (.bipush (-2), 2) := by decide +kernel
theorem dX12_asksTwo_16 : decode cX12_asksTwo 16 = .ok (.goto 25, 3) := by decide +kernel
theorem dX12_asksTwo_41 : decode cX12_asksTwo 41 = .ok (.ireturn, 1) := by decide +kernel
theorem dX12_asksTwo_7 : decode cX12_asksTwo 7 = .ok (.iload_n 2, 1) := by decide +kernel
theorem dX12_asksTwo_8 : decode cX12_asksTwo 8 = .ok (.invokestatic 319, 3) := by decide +kernel
theorem dX12_asksTwo_11 : decode cX12_asksTwo 11 = .ok (.ifCond .ne 8, 3) := by decide +kernel
theorem dX12_asksTwo_19 : decode cX12_asksTwo 19 = .ok (.aload_n 0, 1) := by decide +kernel
theorem dX12_asksTwo_20 : decode cX12_asksTwo 20 = .ok (.iload_n 1, 1) := by decide +kernel
theorem dX12_asksTwo_21 : decode cX12_asksTwo 21 = .ok (.invokevirtual 351, 3) := by decide +kernel
theorem dX12_asksTwo_24 : decode cX12_asksTwo 24 = .ok (.ifCond .eq 15, 3) := by decide +kernel
theorem dX12_asksTwo_39 : decode cX12_asksTwo 39 = .ok (.bipush (-6), 2) := by decide +kernel
theorem dX12_says_0 : decode cX12_says 0 = .ok (.aload_n 0, 1) := by decide +kernel
theorem dX12_says_1 : decode cX12_says 1 = .ok (.iload_n 1, 1) := by decide +kernel
theorem dX12_says_2 : decode cX12_says 2 = .ok (.invokevirtual 376, 3) := by decide +kernel
theorem dX12_says_5 : decode cX12_says 5 = .ok (.istore_n 2, 1) := by decide +kernel
theorem dX12_says_6 : decode cX12_says 6 = .ok (.iload_n 2, 1) := by decide +kernel
theorem dX12_says_7 : decode cX12_says 7 = .ok (.ifCond .ge 5, 3) := by decide +kernel
theorem dX12_says_10 : decode cX12_says 10 = .ok (.iload_n 2, 1) := by decide +kernel
theorem dX12_says_11 : decode cX12_says 11 = .ok (.ireturn, 1) := by decide +kernel
theorem dX12_stops_0 : decode cX12_stops 0 = .ok (.aload_n 0, 1) := by decide +kernel
theorem dX12_stops_1 : decode cX12_stops 1 = .ok (.iload_n 1, 1) := by decide +kernel
theorem dX12_stops_2 : decode cX12_stops 2 = .ok (.invokevirtual 376, 3) := by decide +kernel
theorem dX12_stops_5 : decode cX12_stops 5 = .ok (.istore_n 2, 1) := by decide +kernel
theorem dX12_stops_6 : decode cX12_stops 6 = .ok (.iload_n 2, 1) := by decide +kernel
theorem dX12_stops_7 : decode cX12_stops 7 = .ok (.ifCond .ge 5, 3) := by decide +kernel
theorem dX12_stops_10 : decode cX12_stops 10 = .ok (.iload_n 2, 1) := by decide +kernel
theorem dX12_stops_11 : decode cX12_stops 11 = .ok (.ireturn, 1) := by decide +kernel
theorem dX12_best_0 : decode cX12_best 0 = .ok (.aload_n 0, 1) := by decide +kernel
theorem dX12_best_1 : decode cX12_best 1 = .ok (.iload_n 1, 1) := by decide +kernel
theorem dX12_best_2 : decode cX12_best 2 = .ok (.invokevirtual 376, 3) := by decide +kernel
theorem dX12_best_5 : decode cX12_best 5 = .ok (.istore_n 2, 1) := by decide +kernel
theorem dX12_best_6 : decode cX12_best 6 = .ok (.iload_n 2, 1) := by decide +kernel
theorem dX12_best_7 : decode cX12_best 7 = .ok (.ifCond .ge 5, 3) := by decide +kernel
theorem dX12_best_10 : decode cX12_best 10 = .ok (.iload_n 2, 1) := by decide +kernel
theorem dX12_best_11 : decode cX12_best 11 = .ok (.ireturn, 1) := by decide +kernel
theorem dX12_lose_0 : decode cX12_lose 0 = .ok (.aload_n 0, 1) := by decide +kernel
theorem dX12_lose_1 : decode cX12_lose 1 = .ok (.iload_n 1, 1) := by decide +kernel
theorem dX12_lose_2 : decode cX12_lose 2 = .ok (.invokevirtual 376, 3) := by decide +kernel
theorem dX12_lose_5 : decode cX12_lose 5 = .ok (.istore_n 2, 1) := by decide +kernel
theorem dX12_lose_6 : decode cX12_lose 6 = .ok (.iload_n 2, 1) := by decide +kernel
theorem dX12_lose_7 : decode cX12_lose 7 = .ok (.ifCond .ge 5, 3) := by decide +kernel
theorem dX12_lose_10 : decode cX12_lose 10 = .ok (.iload_n 2, 1) := by decide +kernel
theorem dX12_lose_11 : decode cX12_lose 11 = .ok (.ireturn, 1) := by decide +kernel
theorem dX12_mend_0 : decode cX12_mend 0 = .ok (.aload_n 0, 1) := by decide +kernel
theorem dX12_mend_1 : decode cX12_mend 1 = .ok (.iload_n 1, 1) := by decide +kernel
theorem dX12_mend_2 : decode cX12_mend 2 = .ok (.invokevirtual 376, 3) := by decide +kernel
theorem dX12_mend_5 : decode cX12_mend 5 = .ok (.istore_n 2, 1) := by decide +kernel
theorem dX12_mend_6 : decode cX12_mend 6 = .ok (.iload_n 2, 1) := by decide +kernel
theorem dX12_mend_7 : decode cX12_mend 7 = .ok (.ifCond .ge 5, 3) := by decide +kernel
theorem dX12_mend_10 : decode cX12_mend 10 = .ok (.iload_n 2, 1) := by decide +kernel
theorem dX12_mend_11 : decode cX12_mend 11 = .ok (.ireturn, 1) := by decide +kernel
theorem dX12_ball_0 : decode cX12_ball 0 = .ok (.aload_n 0, 1) := by decide +kernel
theorem dX12_ball_1 : decode cX12_ball 1 = .ok (.iload_n 1, 1) := by decide +kernel
theorem dX12_ball_2 : decode cX12_ball 2 = .ok (.invokevirtual 376, 3) := by decide +kernel
theorem dX12_ball_5 : decode cX12_ball 5 = .ok (.istore_n 3, 1) := by decide +kernel
theorem dX12_ball_6 : decode cX12_ball 6 = .ok (.iload_n 3, 1) := by decide +kernel
theorem dX12_ball_7 : decode cX12_ball 7 = .ok (.ifCond .ge 5, 3) := by decide +kernel
theorem dX12_ball_10 : decode cX12_ball 10 = .ok (.iload_n 3, 1) := by decide +kernel
theorem dX12_ball_11 : decode cX12_ball 11 = .ok (.ireturn, 1) := by decide +kernel
theorem dX12_alike_0 : decode cX12_alike 0 = .ok (.aload_n 0, 1) := by decide +kernel
theorem dX12_alike_1 : decode cX12_alike 1 = .ok (.iload_n 1, 1) := by decide +kernel
theorem dX12_alike_2 : decode cX12_alike 2 = .ok (.iload_n 2, 1) := by decide +kernel
theorem dX12_alike_3 : decode cX12_alike 3 = .ok (.invokevirtual 419, 3) := by decide +kernel
theorem dX12_alike_6 : decode cX12_alike 6 = .ok (.istore_n 3, 1) := by decide +kernel
theorem dX12_alike_7 : decode cX12_alike 7 = .ok (.iload_n 3, 1) := by decide +kernel
theorem dX12_alike_8 : decode cX12_alike 8 = .ok (.ifCond .ge 5, 3) := by decide +kernel
theorem dX12_alike_11 : decode cX12_alike 11 = .ok (.iload_n 3, 1) := by decide +kernel
theorem dX12_alike_12 : decode cX12_alike 12 = .ok (.ireturn, 1) := by decide +kernel
theorem dX12_rewind_0 : decode cX12_rewind 0 = .ok (.iload_n 1, 1) := by decide +kernel
theorem dX12_rewind_1 : decode cX12_rewind 1 = .ok (.invokestatic 319, 3) := by decide +kernel
theorem dX12_rewind_4 : decode cX12_rewind 4 = .ok (.ifCond .eq 10, 3) := by decide +kernel
theorem dX12_rewind_14 : decode cX12_rewind 14 = .ok (.bipush (-2), 2) := by decide +kernel
theorem dX12_rewind_16 : decode cX12_rewind 16 = .ok (.ireturn, 1) := by decide +kernel
theorem dX12_rewind_7 : decode cX12_rewind 7 = .ok (.iload_n 2, 1) := by decide +kernel
theorem dX12_rewind_8 : decode cX12_rewind 8 = .ok (.invokestatic 319, 3) := by decide +kernel
theorem dX12_rewind_11 : decode cX12_rewind 11 = .ok (.ifCond .ne 6, 3) := by decide +kernel
theorem dX12_rewind_17 : decode cX12_rewind 17 = .ok (.aload_n 0, 1) := by decide +kernel
theorem dX12_rewind_18 : decode cX12_rewind 18 = .ok (.iload_n 1, 1) := by decide +kernel
theorem dX12_rewind_19 : decode cX12_rewind 19 = .ok (.invokevirtual 351, 3) := by decide +kernel
theorem dX12_rewind_22 : decode cX12_rewind 22 = .ok (.ifCond .ne 6, 3) := by decide +kernel
theorem dX12_rewind_25 : decode cX12_rewind 25 = .ok (.bipush (-6), 2) := by decide +kernel
theorem dX12_rewind_27 : decode cX12_rewind 27 = .ok (.ireturn, 1) := by decide +kernel
theorem dX12_copy_0 : decode cX12_copy 0 = .ok (.iload_n 1, 1) := by decide +kernel
theorem dX12_copy_1 : decode cX12_copy 1 = .ok (.invokestatic 319, 3) := by decide +kernel
theorem dX12_copy_4 : decode cX12_copy 4 = .ok (.ifCond .eq 10, 3) := by decide +kernel
theorem dX12_copy_14 : decode cX12_copy 14 = .ok (.bipush (-2), 2) := by decide +kernel
theorem dX12_copy_16 : decode cX12_copy 16 = .ok (.ireturn, 1) := by decide +kernel
theorem dX12_copy_7 : decode cX12_copy 7 = .ok (.iload_n 2, 1) := by decide +kernel
theorem dX12_copy_8 : decode cX12_copy 8 = .ok (.invokestatic 319, 3) := by decide +kernel
theorem dX12_copy_11 : decode cX12_copy 11 = .ok (.ifCond .ne 6, 3) := by decide +kernel
theorem dX12_copy_17 : decode cX12_copy 17 = .ok (.aload_n 0, 1) := by decide +kernel
theorem dX12_copy_18 : decode cX12_copy 18 = .ok (.iload_n 1, 1) := by decide +kernel
theorem dX12_copy_19 : decode cX12_copy 19 = .ok (.invokevirtual 351, 3) := by decide +kernel
theorem dX12_copy_22 : decode cX12_copy 22 = .ok (.ifCond .ne 6, 3) := by decide +kernel
theorem dX12_copy_25 : decode cX12_copy 25 = .ok (.bipush (-6), 2) := by decide +kernel
theorem dX12_copy_27 : decode cX12_copy 27 = .ok (.ireturn, 1) := by decide +kernel
theorem dX12_put_0 : decode cX12_put 0 = .ok (.aload_n 0, 1) := by decide +kernel
theorem dX12_put_1 : decode cX12_put 1 = .ok (.iload_n 1, 1) := by decide +kernel
theorem dX12_put_2 : decode cX12_put 2 = .ok (.iload_n 2, 1) := by decide +kernel
theorem dX12_put_3 : decode cX12_put 3 = .ok (.invokevirtual 357, 3) := by decide +kernel
theorem dX12_put_6 : decode cX12_put 6 = .ok (.istore_n 3, 1) := by decide +kernel
theorem dX12_put_7 : decode cX12_put 7 = .ok (.iload_n 3, 1) := by decide +kernel
theorem dX12_put_8 : decode cX12_put 8 = .ok (.ifCond .ge 5, 3) := by decide +kernel
theorem dX12_put_11 : decode cX12_put 11 = .ok (.iload_n 3, 1) := by decide +kernel
theorem dX12_put_12 : decode cX12_put 12 = .ok (.ireturn, 1) := by decide +kernel
theorem dX12_read_0 : decode cX12_read 0 = .ok (.aload_n 0, 1) := by decide +kernel
theorem dX12_read_1 : decode cX12_read 1 = .ok (.iload_n 1, 1) := by decide +kernel
theorem dX12_read_2 : decode cX12_read 2 = .ok (.iload_n 2, 1) := by decide +kernel
theorem dX12_read_3 : decode cX12_read 3 = .ok (.invokevirtual 357, 3) := by decide +kernel
theorem dX12_read_6 : decode cX12_read 6 = .ok (.istore_n 3, 1) := by decide +kernel
theorem dX12_read_7 : decode cX12_read 7 = .ok (.iload_n 3, 1) := by decide +kernel
theorem dX12_read_8 : decode cX12_read 8 = .ok (.ifCond .ge 5, 3) := by decide +kernel
theorem dX12_read_11 : decode cX12_read 11 = .ok (.iload_n 3, 1) := by decide +kernel
theorem dX12_read_12 : decode cX12_read 12 = .ok (.ireturn, 1) := by decide +kernel
theorem dX12_dim_0 : decode cX12_dim 0 = .ok (.aload_n 0, 1) := by decide +kernel
theorem dX12_dim_1 : decode cX12_dim 1 = .ok (.iload_n 1, 1) := by decide +kernel
theorem dX12_dim_2 : decode cX12_dim 2 = .ok (.iload_n 2, 1) := by decide +kernel
theorem dX12_dim_3 : decode cX12_dim 3 = .ok (.invokevirtual 357, 3) := by decide +kernel
theorem dX12_dim_6 : decode cX12_dim 6 = .ok (.istore_n 3, 1) := by decide +kernel
theorem dX12_dim_7 : decode cX12_dim 7 = .ok (.iload_n 3, 1) := by decide +kernel
theorem dX12_dim_8 : decode cX12_dim 8 = .ok (.ifCond .ge 5, 3) := by decide +kernel
theorem dX12_dim_11 : decode cX12_dim 11 = .ok (.iload_n 3, 1) := by decide +kernel
theorem dX12_dim_12 : decode cX12_dim 12 = .ok (.ireturn, 1) := by decide +kernel
theorem dX12_bit_0 : decode cX12_bit 0 = .ok (.aload_n 0, 1) := by decide +kernel
theorem dX12_bit_1 : decode cX12_bit 1 = .ok (.iload_n 1, 1) := by decide +kernel
theorem dX12_bit_2 : decode cX12_bit 2 = .ok (.iload_n 2, 1) := by decide +kernel
theorem dX12_bit_3 : decode cX12_bit 3 = .ok (.invokevirtual 357, 3) := by decide +kernel
theorem dX12_bit_6 : decode cX12_bit 6 = .ok (.istore 4, 2) := by decide +kernel
theorem dX12_bit_8 : decode cX12_bit 8 = .ok (.iload 4, 2) := by decide +kernel
theorem dX12_bit_10 : decode cX12_bit 10 = .ok (.ifCond .ge 6, 3) := by decide +kernel
theorem dX12_bit_13 : decode cX12_bit 13 = .ok (.iload 4, 2) := by decide +kernel
theorem dX12_bit_15 : decode cX12_bit 15 = .ok (.ireturn, 1) := by decide +kernel
theorem dX12_place_0 : decode cX12_place 0 = .ok (.aload_n 0, 1) := by decide +kernel
theorem dX12_place_1 : decode cX12_place 1 = .ok (.iload_n 1, 1) := by decide +kernel
theorem dX12_place_2 : decode cX12_place 2 = .ok (.invokevirtual 383, 3) := by decide +kernel
theorem dX12_place_5 : decode cX12_place 5 = .ok (.istore_n 3, 1) := by decide +kernel
theorem dX12_place_6 : decode cX12_place 6 = .ok (.iload_n 3, 1) := by decide +kernel
theorem dX12_place_7 : decode cX12_place 7 = .ok (.ifCond .ge 5, 3) := by decide +kernel
theorem dX12_place_10 : decode cX12_place 10 = .ok (.iload_n 3, 1) := by decide +kernel
theorem dX12_place_11 : decode cX12_place 11 = .ok (.ireturn, 1) := by decide +kernel
theorem dX12_room_0 : decode cX12_room 0 = .ok (.aload_n 0, 1) := by decide +kernel
theorem dX12_room_1 : decode cX12_room 1 = .ok (.iload_n 1, 1) := by decide +kernel
theorem dX12_room_2 : decode cX12_room 2 = .ok (.invokevirtual 383, 3) := by decide +kernel
theorem dX12_room_5 : decode cX12_room 5 = .ok (.istore_n 2, 1) := by decide +kernel
theorem dX12_room_6 : decode cX12_room 6 = .ok (.iload_n 2, 1) := by decide +kernel
theorem dX12_room_7 : decode cX12_room 7 = .ok (.ifCond .ge 7, 3) := by decide +kernel
theorem dX12_room_10 : decode cX12_room 10 = .ok (.iload_n 2, 1) := by decide +kernel
theorem dX12_room_11 : decode cX12_room 11 = .ok (.goto 8, 3) := by decide +kernel
theorem dX12_room_19 : decode cX12_room 19 = .ok (.ireturn, 1) := by decide +kernel
theorem dX12_most_0 : decode cX12_most 0 = .ok (.aload_n 0, 1) := by decide +kernel
theorem dX12_most_1 : decode cX12_most 1 = .ok (.iload_n 1, 1) := by decide +kernel
theorem dX12_most_2 : decode cX12_most 2 = .ok (.invokevirtual 383, 3) := by decide +kernel
theorem dX12_most_5 : decode cX12_most 5 = .ok (.istore_n 2, 1) := by decide +kernel
theorem dX12_most_6 : decode cX12_most 6 = .ok (.iload_n 2, 1) := by decide +kernel
theorem dX12_most_7 : decode cX12_most 7 = .ok (.ifCond .ge 7, 3) := by decide +kernel
theorem dX12_most_10 : decode cX12_most 10 = .ok (.iload_n 2, 1) := by decide +kernel
theorem dX12_most_11 : decode cX12_most 11 = .ok (.goto 16, 3) := by decide +kernel
theorem dX12_most_27 : decode cX12_most 27 = .ok (.ireturn, 1) := by decide +kernel
theorem dX12_rows_0 : decode cX12_rows 0 = .ok (.aload_n 0, 1) := by decide +kernel
theorem dX12_rows_1 : decode cX12_rows 1 = .ok (.getfield 13, 3) := by decide +kernel
theorem dX12_rows_4 : decode cX12_rows 4 = .ok (.iconst 0, 1) := by decide +kernel
theorem dX12_rows_5 : decode cX12_rows 5 = .ok (.iaload, 1) := by decide +kernel
theorem dX12_rows_6 : decode cX12_rows 6 = .ok (.ireturn, 1) := by decide +kernel
theorem dX12_hasPattern_0 : decode cX12_hasPattern 0 = .ok (.aload_n 0, 1) := by decide +kernel
theorem dX12_hasPattern_1 : decode cX12_hasPattern 1 = .ok (.invokevirtual 83, 3) := by decide +kernel
theorem dX12_hasPattern_4 : decode cX12_hasPattern 4 = .ok (.ifCond .le 7, 3) := by decide +kernel
theorem dX12_hasPattern_11 : decode cX12_hasPattern 11 = .ok (.iconst 0, 1) := by decide +kernel
theorem dX12_hasPattern_12 : decode cX12_hasPattern 12 = .ok (.ireturn, 1) := by decide +kernel
theorem dX12_knit_0 : decode cX12_knit 0 = .ok (.iload_n 1, 1) := by decide +kernel
theorem dX12_knit_1 : decode cX12_knit 1 = .ok (.invokestatic 319, 3) := by decide +kernel
theorem dX12_knit_4 : decode cX12_knit 4 = .ok (.ifCond .eq 10, 3) := by decide +kernel
theorem dX12_knit_14 : decode cX12_knit 14 = .ok (.bipush (-2), 2) := by decide +kernel
theorem dX12_knit_16 : decode cX12_knit 16 = .ok (.ireturn, 1) := by decide +kernel
theorem dX12_knit_7 : decode cX12_knit 7 = .ok (.iload_n 2, 1) := by decide +kernel
theorem dX12_knit_8 : decode cX12_knit 8 = .ok (.invokestatic 322, 3) := by decide +kernel
theorem dX12_knit_11 : decode cX12_knit 11 = .ok (.ifCond .ne 6, 3) := by decide +kernel
theorem dX12_knit_17 : decode cX12_knit 17 = .ok (.aload_n 0, 1) := by decide +kernel
theorem dX12_knit_18 : decode cX12_knit 18 = .ok (.invokevirtual 325, 3) := by decide +kernel
theorem dX12_knit_21 : decode cX12_knit 21 = .ok (.ifCond .ne 6, 3) := by decide +kernel
theorem dX12_knit_24 : decode cX12_knit 24 = .ok (.bipush (-6), 2) := by decide +kernel
theorem dX12_knit_26 : decode cX12_knit 26 = .ok (.ireturn, 1) := by decide +kernel
theorem dX12_counts_0 : decode cX12_counts 0 = .ok (.iload_n 1, 1) := by decide +kernel
theorem dX12_counts_1 : decode cX12_counts 1 = .ok (.invokestatic 319, 3) := by decide +kernel
theorem dX12_counts_4 : decode cX12_counts 4 = .ok (.ifCond .eq 15, 3) := by decide +kernel
theorem dX12_counts_19 : decode cX12_counts 19 = .ok (.bipush (-2), 2) := by decide +kernel
theorem dX12_counts_21 : decode cX12_counts 21 = .ok (.ireturn, 1) := by decide +kernel
theorem dX12_counts_7 : decode cX12_counts 7 = .ok (.iload_n 2, 1) := by decide +kernel
theorem dX12_counts_8 : decode cX12_counts 8 = .ok (.i2l, 1) := by decide +kernel
theorem dX12_counts_9 : decode cX12_counts 9 = .ok (.lconst 0, 1) := by decide +kernel
theorem dX12_counts_10 : decode cX12_counts 10 = .ok (.ldc2_w 389, 3) := by decide +kernel
theorem dX12_counts_13 : decode cX12_counts 13 = .ok (.invokestatic 79, 3) := by decide +kernel
theorem dX12_counts_16 : decode cX12_counts 16 = .ok (.ifCond .ne 6, 3) := by decide +kernel
theorem dX12_counts_22 : decode cX12_counts 22 = .ok (.aload_n 0, 1) := by decide +kernel
theorem dX12_counts_23 : decode cX12_counts 23 = .ok (.iload_n 1, 1) := by decide +kernel
theorem dX12_counts_24 : decode cX12_counts 24 = .ok (.invokevirtual 351, 3) := by decide +kernel
theorem dX12_counts_27 : decode cX12_counts 27 = .ok (.ifCond .ne 6, 3) := by decide +kernel
theorem dX12_counts_30 : decode cX12_counts 30 = .ok (.bipush (-6), 2) := by decide +kernel
theorem dX12_counts_32 : decode cX12_counts 32 = .ok (.ireturn, 1) := by decide +kernel
theorem dX12_odds_0 : decode cX12_odds 0 = .ok (.iload_n 1, 1) := by decide +kernel
theorem dX12_odds_1 : decode cX12_odds 1 = .ok (.invokestatic 322, 3) := by decide +kernel
theorem dX12_odds_4 : decode cX12_odds 4 = .ok (.ifCond .eq 15, 3) := by decide +kernel
theorem dX12_odds_19 : decode cX12_odds 19 = .ok (.bipush (-2), 2) := by decide +kernel
theorem dX12_odds_21 : decode cX12_odds 21 = .ok (.ireturn, 1) := by decide +kernel
theorem dX12_odds_7 : decode cX12_odds 7 = .ok (.iload_n 2, 1) := by decide +kernel
theorem dX12_odds_8 : decode cX12_odds 8 = .ok (.i2l, 1) := by decide +kernel
theorem dX12_odds_9 : decode cX12_odds 9 = .ok (.lconst 1, 1) := by decide +kernel
theorem dX12_odds_10 : decode cX12_odds 10 = .ok (.ldc2_w 408, 3) := by decide +kernel
theorem dX12_odds_13 : decode cX12_odds 13 = .ok (.invokestatic 79, 3) := by decide +kernel
theorem dX12_odds_16 : decode cX12_odds 16 = .ok (.ifCond .ne 6, 3) := by decide +kernel
theorem dX12_odds_22 : decode cX12_odds 22 = .ok (.aload_n 0, 1) := by decide +kernel
theorem dX12_odds_23 : decode cX12_odds 23 = .ok (.invokevirtual 325, 3) := by decide +kernel
theorem dX12_odds_26 : decode cX12_odds 26 = .ok (.ifCond .ne 6, 3) := by decide +kernel
theorem dX12_odds_29 : decode cX12_odds 29 = .ok (.bipush (-6), 2) := by decide +kernel
theorem dX12_odds_31 : decode cX12_odds 31 = .ok (.ireturn, 1) := by decide +kernel
theorem dX12_carries_0 : decode cX12_carries 0 = .ok (.iload_n 1, 1) := by decide +kernel
theorem dX12_carries_1 : decode cX12_carries 1 = .ok (.invokestatic 221, 3) := by decide +kernel
theorem dX12_carries_4 : decode cX12_carries 4 = .ok (.ifCond .eq 22, 3) := by decide +kernel
theorem dX12_carries_26 : decode cX12_carries 26 = .ok (.bipush (-2), 2) := by decide +kernel
theorem dX12_carries_28 : decode cX12_carries 28 = .ok (.ireturn, 1) := by decide +kernel
theorem dX12_carries_7 : decode cX12_carries 7 = .ok (.iload_n 2, 1) := by decide +kernel
theorem dX12_carries_8 : decode cX12_carries 8 = .ok (.invokestatic 322, 3) := by decide +kernel
theorem dX12_carries_11 : decode cX12_carries 11 = .ok (.ifCond .eq 15, 3) := by decide +kernel
theorem dX12_carries_14 : decode cX12_carries 14 = .ok (.iload_n 3, 1) := by decide +kernel
theorem dX12_carries_15 : decode cX12_carries 15 = .ok (.i2l, 1) := by decide +kernel
theorem dX12_carries_16 : decode cX12_carries 16 = .ok (.lconst 1, 1) := by decide +kernel
theorem dX12_carries_17 : decode cX12_carries 17 = .ok (.ldc2_w 408, 3) := by decide +kernel
theorem dX12_carries_20 : decode cX12_carries 20 = .ok (.invokestatic 79, 3) := by decide +kernel
theorem dX12_carries_23 : decode cX12_carries 23 = .ok (.ifCond .ne 6, 3) := by decide +kernel
theorem dX12_carries_29 : decode cX12_carries 29 = .ok (.aload_n 0, 1) := by decide +kernel
theorem dX12_carries_30 : decode cX12_carries 30 = .ok (.invokevirtual 325, 3) := by decide +kernel
theorem dX12_carries_33 : decode cX12_carries 33 = .ok (.ifCond .eq 11, 3) := by decide +kernel
theorem dX12_carries_44 : decode cX12_carries 44 = .ok (.bipush (-6), 2) := by decide +kernel
theorem dX12_carries_46 : decode cX12_carries 46 = .ok (.ireturn, 1) := by decide +kernel
theorem dX12_same_0 : decode cX12_same 0 = .ok (.iload_n 3, 1) := by decide +kernel
theorem dX12_same_1 : decode cX12_same 1 = .ok (.invokestatic 221, 3) := by decide +kernel
theorem dX12_same_4 : decode cX12_same 4 = .ok (.ifCond .ne 6, 3) := by decide +kernel
theorem dX12_same_10 : decode cX12_same 10 = .ok (.aload_n 0, 1) := by decide +kernel
theorem dX12_same_11 : decode cX12_same 11 = .ok (.iload_n 1, 1) := by decide +kernel
theorem dX12_same_12 : decode cX12_same 12 = .ok (.iload_n 2, 1) := by decide +kernel
theorem dX12_same_13 : decode cX12_same 13 = .ok (.invokevirtual 419, 3) := by decide +kernel
theorem dX12_same_16 : decode cX12_same 16 = .ok (.istore 4, 2) := by decide +kernel
theorem dX12_same_18 : decode cX12_same 18 = .ok (.iload 4, 2) := by decide +kernel
theorem dX12_same_20 : decode cX12_same 20 = .ok (.ifCond .ge 6, 3) := by decide +kernel
theorem dX12_same_23 : decode cX12_same 23 = .ok (.iload 4, 2) := by decide +kernel
theorem dX12_same_25 : decode cX12_same 25 = .ok (.ireturn, 1) := by decide +kernel
theorem dX12_same_7 : decode cX12_same 7 = .ok (.bipush (-2), 2) := by decide +kernel
theorem dX12_same_9 : decode cX12_same 9 = .ok (.ireturn, 1) := by decide +kernel
theorem dX12_letter_0 : decode cX12_letter 0 = .ok (.iload_n 1, 1) := by decide +kernel
theorem dX12_letter_1 : decode cX12_letter 1 = .ok (.i2l, 1) := by decide +kernel
theorem dX12_letter_2 : decode cX12_letter 2 = .ok (.lconst 0, 1) := by decide +kernel
theorem dX12_letter_3 : decode cX12_letter 3 = .ok (.aload_n 0, 1) := by decide +kernel
theorem dX12_letter_4 : decode cX12_letter 4 = .ok (.getfield 49, 3) := by decide +kernel
theorem dX12_letter_7 : decode cX12_letter 7 = .ok (.iconst 1, 1) := by decide +kernel
theorem dX12_letter_8 : decode cX12_letter 8 = .ok (.isub, 1) := by decide +kernel
theorem dX12_letter_9 : decode cX12_letter 9 = .ok (.i2l, 1) := by decide +kernel
theorem dX12_letter_10 : decode cX12_letter 10 = .ok (.invokestatic 79, 3) := by decide +kernel
theorem dX12_letter_13 : decode cX12_letter 13 = .ok (.ifCond .ne 5, 3) := by decide +kernel
theorem dX12_letter_16 : decode cX12_letter 16 = .ok (.iconst (-1), 1) := by decide +kernel
theorem dX12_letter_17 : decode cX12_letter 17 = .ok (.ireturn, 1) := by decide +kernel
theorem dX12_isPlace_0 : decode cX12_isPlace 0 = .ok (.iload_n 1, 1) := by decide +kernel
theorem dX12_isPlace_1 : decode cX12_isPlace 1 = .ok (.i2l, 1) := by decide +kernel
theorem dX12_isPlace_2 : decode cX12_isPlace 2 = .ok (.lconst 0, 1) := by decide +kernel
theorem dX12_isPlace_3 : decode cX12_isPlace 3 = .ok (.aload_n 0, 1) := by decide +kernel
theorem dX12_isPlace_4 : decode cX12_isPlace 4 = .ok (.invokevirtual 83, 3) := by decide +kernel
theorem dX12_isPlace_7 : decode cX12_isPlace 7 = .ok (.iconst 1, 1) := by decide +kernel
theorem dX12_isPlace_8 : decode cX12_isPlace 8 = .ok (.isub, 1) := by decide +kernel
theorem dX12_isPlace_9 : decode cX12_isPlace 9 = .ok (.i2l, 1) := by decide +kernel
theorem dX12_isPlace_10 : decode cX12_isPlace 10 = .ok (.invokestatic 79, 3) := by decide +kernel
theorem dX12_isPlace_13 : decode cX12_isPlace 13 = .ok (.ifCond .eq 23, 3) := by decide +kernel
theorem dX12_isPlace_36 : decode cX12_isPlace 36 = .ok (.iconst 0, 1) := by decide +kernel
theorem dX12_isPlace_37 : decode cX12_isPlace 37 = .ok (.ireturn, 1) := by decide +kernel
theorem dX12_sort_0 : decode cX12_sort 0 = .ok (.aload_n 0, 1) := by decide +kernel
theorem dX12_sort_1 : decode cX12_sort 1 = .ok (.iload_n 1, 1) := by decide +kernel
theorem dX12_sort_2 : decode cX12_sort 2 = .ok (.iload_n 2, 1) := by decide +kernel
theorem dX12_sort_3 : decode cX12_sort 3 = .ok (.invokevirtual 379, 3) := by decide +kernel
theorem dX12_sort_6 : decode cX12_sort 6 = .ok (.ifCond .eq 18, 3) := by decide +kernel
theorem dX12_sort_24 : decode cX12_sort 24 = .ok (.iconst (-1), 1) := by decide +kernel
theorem dX12_sort_25 : decode cX12_sort 25 = .ok (.ireturn, 1) := by decide +kernel
theorem dX12_at_0 : decode cX12_at 0 = .ok (.iload_n 1, 1) := by decide +kernel
theorem dX12_at_1 : decode cX12_at 1 = .ok (.invokestatic 319, 3) := by decide +kernel
theorem dX12_at_4 : decode cX12_at 4 = .ok (.ifCond .eq 36, 3) := by decide +kernel
theorem dX12_at_40 : decode cX12_at 40 = .ok (.iconst (-1), 1) := by decide +kernel
theorem dX12_at_41 : decode cX12_at 41 = .ok (.ireturn, 1) := by decide +kernel
theorem dX12_at_7 : decode cX12_at 7 = .ok (.aload_n 0, 1) := by decide +kernel
theorem dX12_at_8 : decode cX12_at 8 = .ok (.iload_n 1, 1) := by decide +kernel
theorem dX12_at_9 : decode cX12_at 9 = .ok (.invokevirtual 351, 3) := by decide +kernel
theorem dX12_at_12 : decode cX12_at 12 = .ok (.ifCond .eq 28, 3) := by decide +kernel
theorem dX12_turn_0 : decode cX12_turn 0 = .ok (.iload_n 1, 1) := by decide +kernel
theorem dX12_turn_1 : decode cX12_turn 1 = .ok (.invokestatic 319, 3) := by decide +kernel
theorem dX12_turn_4 : decode cX12_turn 4 = .ok (.ifCond .eq 27, 3) := by decide +kernel
theorem dX12_turn_31 : decode cX12_turn 31 = .ok (.bipush (-2), 2) := by decide +kernel
theorem dX12_turn_33 : decode cX12_turn 33 = .ok (.ireturn, 1) := by decide +kernel
theorem dX12_turn_7 : decode cX12_turn 7 = .ok (.aload_n 0, 1) := by decide +kernel
theorem dX12_turn_8 : decode cX12_turn 8 = .ok (.iload_n 2, 1) := by decide +kernel
theorem dX12_turn_9 : decode cX12_turn 9 = .ok (.iload_n 3, 1) := by decide +kernel
theorem dX12_turn_10 : decode cX12_turn 10 = .ok (.invokevirtual 379, 3) := by decide +kernel
theorem dX12_turn_13 : decode cX12_turn 13 = .ok (.ifCond .eq 18, 3) := by decide +kernel
