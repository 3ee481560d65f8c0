theorem dX11_isCloth_0 : decode cX11_isCloth 0 = .ok (.iload_n 0, 1) := by decide +kernel
theorem dX11_isCloth_1 : decode cX11_isCloth 1 = .ok (.ifCond .lt 12, 3) := by decide +kernel
theorem dX11_isCloth_4 : decode cX11_isCloth 4 = .ok (.iload_n 0, 1) := by decide +kernel
theorem dX11_isCloth_5 : decode cX11_isCloth 5 = .ok (.iconst 4, 1) := by decide +kernel
theorem dX11_isCloth_6 : decode cX11_isCloth 6 = .ok (.if_icmp .ge 7, 3) := by decide +kernel
theorem dX11_isCloth_9 : decode cX11_isCloth 9 = .ok (.iconst 1, 1) := by decide +kernel
theorem dX11_isCloth_10 : decode cX11_isCloth 10 = .ok (.goto 4, 3) := by decide +kernel
theorem dX11_isCloth_13 : decode cX11_isCloth 13 = .ok (.iconst 0, 1) := by decide +kernel
theorem dX11_isCloth_14 : decode cX11_isCloth 14 = .ok (.ireturn, 1) := by decide +kernel
theorem dX11_isWay_0 : decode cX11_isWay 0 = .ok (.iload_n 0, 1) := by decide +kernel
theorem dX11_isWay_1 : decode cX11_isWay 1 = .ok (.ifCond .lt 13, 3) := by decide +kernel
theorem dX11_isWay_4 : decode cX11_isWay 4 = .ok (.iload_n 0, 1) := by decide +kernel
theorem dX11_isWay_5 : decode cX11_isWay 5 = .ok (.bipush 6, 2) := by decide +kernel
theorem dX11_isWay_7 : decode cX11_isWay 7 = .ok (.if_icmp .ge 7, 3) := by decide +kernel
theorem dX11_isWay_10 : decode cX11_isWay 10 = .ok (.iconst 1, 1) := by decide +kernel
theorem dX11_isWay_11 : decode cX11_isWay 11 = .ok (.goto 4, 3) := by decide +kernel
theorem dX11_isWay_14 : decode cX11_isWay 14 = .ok (.iconst 0, 1) := by decide +kernel
theorem dX11_isWay_15 : decode cX11_isWay 15 = .ok (.ireturn, 1) := by decide +kernel
theorem dX11_isSlot_0 : decode cX11_isSlot 0 = .ok (.iload_n 0, 1) := by decide +kernel
theorem dX11_isSlot_1 : decode cX11_isSlot 1 = .ok (.ifCond .lt 12, 3) := by decide +kernel
theorem dX11_isSlot_4 : decode cX11_isSlot 4 = .ok (.iload_n 0, 1) := by decide +kernel
theorem dX11_isSlot_5 : decode cX11_isSlot 5 = .ok (.iconst 4, 1) := by decide +kernel
theorem dX11_isSlot_6 : decode cX11_isSlot 6 = .ok (.if_icmp .ge 7, 3) := by decide +kernel
theorem dX11_isSlot_9 : decode cX11_isSlot 9 = .ok (.iconst 1, 1) := by decide +kernel
theorem dX11_isSlot_10 : decode cX11_isSlot 10 = .ok (.goto 4, 3) := by decide +kernel
theorem dX11_isSlot_13 : decode cX11_isSlot 13 = .ok (.iconst 0, 1) := by decide +kernel
theorem dX11_isSlot_14 : decode cX11_isSlot 14 = .ok (.ireturn, 1) := by decide +kernel
theorem dX11_isSeed_0 : decode cX11_isSeed 0 = .ok (.iload_n 0, 1) := by decide +kernel
theorem dX11_isSeed_1 : decode cX11_isSeed 1 = .ok (.ifCond .lt 14, 3) := by decide +kernel
theorem dX11_isSeed_4 : decode cX11_isSeed 4 = .ok (.iload_n 0, 1) := by decide +kernel
theorem dX11_isSeed_5 : decode cX11_isSeed 5 = .ok (.ldc_w 385, 3) := by decide +kernel
theorem dX11_isSeed_8 : decode cX11_isSeed 8 = .ok (.if_icmp .gt 7, 3) := by decide +kernel
theorem dX11_isSeed_11 : decode cX11_isSeed 11 = .ok (.iconst 1, 1) := by decide +kernel
theorem dX11_isSeed_12 : decode cX11_isSeed 12 = .ok (.goto 4, 3) := by decide +kernel
theorem dX11_isSeed_15 : decode cX11_isSeed 15 = .ok (.iconst 0, 1) := by decide +kernel
theorem dX11_isSeed_16 : decode cX11_isSeed 16 = .ok (.ireturn, 1) := by decide +kernel
theorem dX11_isManyKnitted_0 : decode cX11_isManyKnitted 0 = .ok (.iload_n 0, 1) := by decide +kernel
theorem dX11_isManyKnitted_1 : decode cX11_isManyKnitted 1 = .ok (.iconst 1, 1) := by decide +kernel
theorem dX11_isManyKnitted_2 : decode cX11_isManyKnitted 2 = .ok (.if_icmp .lt 13, 3) := by decide +kernel
theorem dX11_isManyKnitted_5 : decode cX11_isManyKnitted 5 = .ok (.iload_n 0, 1) := by decide +kernel
theorem dX11_isManyKnitted_6 : decode cX11_isManyKnitted 6 = .ok (.bipush 50, 2) := by decide +kernel
theorem dX11_isManyKnitted_8 : decode cX11_isManyKnitted 8 = .ok (.if_icmp .gt 7, 3) := by decide +kernel
theorem dX11_isManyKnitted_11 : decode cX11_isManyKnitted 11 = .ok (.iconst 1, 1) := by decide +kernel
theorem dX11_isManyKnitted_12 : decode cX11_isManyKnitted 12 = .ok (.goto 4, 3) := by decide +kernel
theorem dX11_isManyKnitted_15 : decode cX11_isManyKnitted 15 = .ok (.iconst 0, 1) := by decide +kernel
theorem dX11_isManyKnitted_16 : decode cX11_isManyKnitted 16 = .ok (.ireturn, 1) := by decide +kernel
theorem dX11_hasCloth_0 : decode cX11_hasCloth 0 = .ok (.iload_n 1, 1) := by decide +kernel
theorem dX11_hasCloth_1 : decode cX11_hasCloth 1 = .ok (.invokestatic 181, 3) := by decide +kernel
theorem dX11_hasCloth_4 : decode cX11_hasCloth 4 = .ok (.ifCond .eq 22, 3) := by decide +kernel
theorem dX11_hasCloth_7 : decode cX11_hasCloth 7 = .ok (.aload_n 0, 1) := by decide +kernel
theorem dX11_hasCloth_8 : decode cX11_hasCloth 8 = .ok (.getfield 19, 3) := by decide +kernel
theorem dX11_hasCloth_11 : decode cX11_hasCloth 11 = .ok (.getfield 190, 3) := by decide +kernel
theorem dX11_hasCloth_14 : decode cX11_hasCloth 14 = .ok (.iload_n 1, 1) := by decide +kernel
theorem dX11_hasCloth_15 : decode cX11_hasCloth 15 = .ok (.aaload, 1) := by decide +kernel
theorem dX11_hasCloth_16 : decode cX11_hasCloth 16 = .ok (.getfield 386, 3) := by decide +kernel
theorem dX11_hasCloth_19 : decode cX11_hasCloth 19 = .ok (.ifCond .eq 7, 3) := by decide +kernel
theorem dX11_hasCloth_26 : decode cX11_hasCloth 26 = .ok (.iconst 0, 1) := by decide +kernel
theorem dX11_hasCloth_27 : decode cX11_hasCloth 27 = .ok (.ireturn, 1) := by decide +kernel
theorem dX11_refusalOfCloth_0 : decode cX11_refusalOfCloth 0 = .ok (.iload_n 1, 1) := by decide +kernel
theorem dX11_refusalOfCloth_1 : decode cX11_refusalOfCloth 1 = .ok (.invokestatic 181, 3) := by decide +kernel
theorem dX11_refusalOfCloth_4 : decode cX11_refusalOfCloth 4 = .ok (.ifCond .ne 6, 3) := by decide +kernel
theorem dX11_refusalOfCloth_7 : decode cX11_refusalOfCloth 7 = .ok (.bipush (-2), 2) := by decide +kernel
theorem dX11_refusalOfCloth_9 : decode cX11_refusalOfCloth 9 = .ok (.ireturn, 1) := by decide +kernel
theorem dX11_refusalOfCloth_10 : decode cX11_refusalOfCloth 10 = .ok (.aload_n 0, 1) := by decide +kernel
theorem dX11_refusalOfCloth_11 : decode cX11_refusalOfCloth 11 = .ok (.iload_n 1, 1) := by decide +kernel
theorem dX11_refusalOfCloth_12 : decode cX11_refusalOfCloth 12 = .ok (.invokevirtual 239, 3) := by decide +kernel
theorem dX11_refusalOfCloth_15 : decode cX11_refusalOfCloth 15 = .ok (.ifCond .eq 7, 3) := by decide +kernel
theorem dX11_refusalOfCloth_22 : decode cX11_refusalOfCloth 22 = .ok (.bipush (-6), 2) := by decide +kernel
theorem dX11_refusalOfCloth_24 : decode cX11_refusalOfCloth 24 = .ok (.ireturn, 1) := by decide +kernel
theorem dX11_refusalOfCloths_0 : decode cX11_refusalOfCloths 0 = .ok (.iload_n 1, 1) := by decide +kernel
theorem dX11_refusalOfCloths_1 : decode cX11_refusalOfCloths 1 = .ok (.invokestatic 181, 3) := by decide +kernel
theorem dX11_refusalOfCloths_4 : decode cX11_refusalOfCloths 4 = .ok (.ifCond .eq 10, 3) := by decide +kernel
theorem dX11_refusalOfCloths_7 : decode cX11_refusalOfCloths 7 = .ok (.iload_n 2, 1) := by decide +kernel
theorem dX11_refusalOfCloths_8 : decode cX11_refusalOfCloths 8 = .ok (.invokestatic 181, 3) := by decide +kernel
theorem dX11_refusalOfCloths_11 : decode cX11_refusalOfCloths 11 = .ok (.ifCond .ne 6, 3) := by decide +kernel
theorem dX11_refusalOfCloths_14 : decode cX11_refusalOfCloths 14 = .ok (.bipush (-2), 2) := by decide +kernel
theorem dX11_refusalOfCloths_16 : decode cX11_refusalOfCloths 16 = .ok (.ireturn, 1) := by decide +kernel
theorem dX11_refusalOfCloths_17 : decode cX11_refusalOfCloths 17 = .ok (.aload_n 0, 1) := by decide +kernel
theorem dX11_refusalOfCloths_18 : decode cX11_refusalOfCloths 18 = .ok (.iload_n 1, 1) := by decide +kernel
theorem dX11_refusalOfCloths_19 : decode cX11_refusalOfCloths 19 = .ok (.invokevirtual 239, 3) := by decide +kernel
theorem dX11_refusalOfCloths_22 : decode cX11_refusalOfCloths 22 = .ok (.ifCond .eq 15, 3) := by decide +kernel
theorem dX11_refusalOfCloths_37 : decode cX11_refusalOfCloths 37 = .ok (.bipush (-6), 2) := by decide +kernel
theorem dX11_refusalOfCloths_39 : decode cX11_refusalOfCloths 39 = .ok (.ireturn, 1) := by decide +kernel
theorem dX11_refusalOfWay_0 : decode cX11_refusalOfWay 0 = .ok (.iload_n 1, 1) := by decide +kernel
theorem dX11_refusalOfWay_1 : decode cX11_refusalOfWay 1 = .ok (.invokestatic 142, 3) := by decide +kernel
theorem dX11_refusalOfWay_4 : decode cX11_refusalOfWay 4 = .ok (.ifCond .ne 6, 3) := by decide +kernel
theorem dX11_refusalOfWay_7 : decode cX11_refusalOfWay 7 = .ok (.bipush (-2), 2) := by decide +kernel
theorem dX11_refusalOfWay_9 : decode cX11_refusalOfWay 9 = .ok (.ireturn, 1) := by decide +kernel
theorem dX11_refusalOfWay_10 : decode cX11_refusalOfWay 10 = .ok (.aload_n 0, 1) := by decide +kernel
theorem dX11_refusalOfWay_11 : decode cX11_refusalOfWay 11 = .ok (.getfield 19, 3) := by decide +kernel
theorem dX11_refusalOfWay_14 : decode cX11_refusalOfWay 14 = .ok (.getfield 146, 3) := by decide +kernel
theorem dX11_refusalOfWay_17 : decode cX11_refusalOfWay 17 = .ok (.iload_n 1, 1) := by decide +kernel
theorem dX11_refusalOfWay_18 : decode cX11_refusalOfWay 18 = .ok (.aaload, 1) := by decide +kernel
theorem dX11_refusalOfWay_19 : decode cX11_refusalOfWay 19 = .ok (.getfield 232, 3) := by decide +kernel
theorem dX11_refusalOfWay_22 : decode cX11_refusalOfWay 22 = .ok (.ifCond .eq 7, 3) := by decide +kernel
theorem dX11_refusalOfWay_29 : decode cX11_refusalOfWay 29 = .ok (.bipush (-6), 2) := by decide +kernel
theorem dX11_refusalOfWay_31 : decode cX11_refusalOfWay 31 = .ok (.ireturn, 1) := by decide +kernel
theorem dX11_refusalOfReading_0 : decode cX11_refusalOfReading 0 = .ok (.iload_n 1, 1) := by decide +kernel
theorem dX11_refusalOfReading_1 : decode cX11_refusalOfReading 1 = .ok (.invokestatic 181, 3) := by decide +kernel
theorem dX11_refusalOfReading_4 : decode cX11_refusalOfReading 4 = .ok (.ifCond .eq 10, 3) := by decide +kernel
theorem dX11_refusalOfReading_7 : decode cX11_refusalOfReading 7 = .ok (.iload_n 2, 1) := by decide +kernel
theorem dX11_refusalOfReading_8 : decode cX11_refusalOfReading 8 = .ok (.invokestatic 142, 3) := by decide +kernel
theorem dX11_refusalOfReading_11 : decode cX11_refusalOfReading 11 = .ok (.ifCond .ne 6, 3) := by decide +kernel
theorem dX11_refusalOfReading_14 : decode cX11_refusalOfReading 14 = .ok (.bipush (-2), 2) := by decide +kernel
theorem dX11_refusalOfReading_16 : decode cX11_refusalOfReading 16 = .ok (.ireturn, 1) := by decide +kernel
theorem dX11_refusalOfReading_17 : decode cX11_refusalOfReading 17 = .ok (.aload_n 0, 1) := by decide +kernel
theorem dX11_refusalOfReading_18 : decode cX11_refusalOfReading 18 = .ok (.iload_n 1, 1) := by decide +kernel
theorem dX11_refusalOfReading_19 : decode cX11_refusalOfReading 19 = .ok (.invokevirtual 239, 3) := by decide +kernel
theorem dX11_refusalOfReading_22 : decode cX11_refusalOfReading 22 = .ok (.ifCond .eq 22, 3) := by decide +kernel
theorem dX11_refusalOfReading_44 : decode cX11_refusalOfReading 44 = .ok (.bipush (-6), 2) := by decide +kernel
theorem dX11_refusalOfReading_46 : decode cX11_refusalOfReading 46 = .ok (.ireturn, 1) := by decide +kernel
theorem dX11_says_0 : decode cX11_says 0 = .ok (.aload_n 0, 1) := by decide +kernel
theorem dX11_says_1 : decode cX11_says 1 = .ok (.iload_n 1, 1) := by decide +kernel
theorem dX11_says_2 : decode cX11_says 2 = .ok (.invokevirtual 229, 3) := by decide +kernel
theorem dX11_says_5 : decode cX11_says 5 = .ok (.istore_n 2, 1) := by decide +kernel
theorem dX11_says_6 : decode cX11_says 6 = .ok (.iload_n 2, 1) := by decide +kernel
theorem dX11_says_7 : decode cX11_says 7 = .ok (.ifCond .eq 5, 3) := by decide +kernel
theorem dX11_says_10 : decode cX11_says 10 = .ok (.iload_n 2, 1) := by decide +kernel
theorem dX11_says_11 : decode cX11_says 11 = .ok (.ireturn, 1) := by decide +kernel
theorem dX11_stops_0 : decode cX11_stops 0 = .ok (.aload_n 0, 1) := by decide +kernel
theorem dX11_stops_1 : decode cX11_stops 1 = .ok (.iload_n 1, 1) := by decide +kernel
theorem dX11_stops_2 : decode cX11_stops 2 = .ok (.invokevirtual 229, 3) := by decide +kernel
theorem dX11_stops_5 : decode cX11_stops 5 = .ok (.istore_n 2, 1) := by decide +kernel
theorem dX11_stops_6 : decode cX11_stops 6 = .ok (.iload_n 2, 1) := by decide +kernel
theorem dX11_stops_7 : decode cX11_stops 7 = .ok (.ifCond .eq 7, 3) := by decide +kernel
theorem dX11_stops_10 : decode cX11_stops 10 = .ok (.iload_n 2, 1) := by decide +kernel
theorem dX11_stops_11 : decode cX11_stops 11 = .ok (.goto 16, 3) := by decide +kernel
theorem dX11_stops_27 : decode cX11_stops 27 = .ok (.ireturn, 1) := by decide +kernel
theorem dX11_best_0 : decode cX11_best 0 = .ok (.aload_n 0, 1) := by decide +kernel
theorem dX11_best_1 : decode cX11_best 1 = .ok (.iload_n 1, 1) := by decide +kernel
theorem dX11_best_2 : decode cX11_best 2 = .ok (.invokevirtual 229, 3) := by decide +kernel
theorem dX11_best_5 : decode cX11_best 5 = .ok (.istore_n 2, 1) := by decide +kernel
theorem dX11_best_6 : decode cX11_best 6 = .ok (.iload_n 2, 1) := by decide +kernel
theorem dX11_best_7 : decode cX11_best 7 = .ok (.ifCond .eq 5, 3) := by decide +kernel
theorem dX11_best_10 : decode cX11_best 10 = .ok (.iload_n 2, 1) := by decide +kernel
theorem dX11_best_11 : decode cX11_best 11 = .ok (.ireturn, 1) := by decide +kernel
theorem dX11_lose_0 : decode cX11_lose 0 = .ok (.aload_n 0, 1) := by decide +kernel
theorem dX11_lose_1 : decode cX11_lose 1 = .ok (.iload_n 1, 1) := by decide +kernel
theorem dX11_lose_2 : decode cX11_lose 2 = .ok (.invokevirtual 229, 3) := by decide +kernel
theorem dX11_lose_5 : decode cX11_lose 5 = .ok (.istore_n 2, 1) := by decide +kernel
theorem dX11_lose_6 : decode cX11_lose 6 = .ok (.iload_n 2, 1) := by decide +kernel
theorem dX11_lose_7 : decode cX11_lose 7 = .ok (.ifCond .eq 5, 3) := by decide +kernel
theorem dX11_lose_10 : decode cX11_lose 10 = .ok (.iload_n 2, 1) := by decide +kernel
theorem dX11_lose_11 : decode cX11_lose 11 = .ok (.ireturn, 1) := by decide +kernel
theorem dX11_mend_0 : decode cX11_mend 0 = .ok (.aload_n 0, 1) := by decide +kernel
theorem dX11_mend_1 : decode cX11_mend 1 = .ok (.iload_n 1, 1) := by decide +kernel
theorem dX11_mend_2 : decode cX11_mend 2 = .ok (.invokevirtual 229, 3) := by decide +kernel
theorem dX11_mend_5 : decode cX11_mend 5 = .ok (.istore_n 2, 1) := by decide +kernel
theorem dX11_mend_6 : decode cX11_mend 6 = .ok (.iload_n 2, 1) := by decide +kernel
theorem dX11_mend_7 : decode cX11_mend 7 = .ok (.ifCond .eq 5, 3) := by decide +kernel
theorem dX11_mend_10 : decode cX11_mend 10 = .ok (.iload_n 2, 1) := by decide +kernel
theorem dX11_mend_11 : decode cX11_mend 11 = .ok (.ireturn, 1) := by decide +kernel
theorem dX11_ball_0 : decode cX11_ball 0 = .ok (.aload_n 0, 1) := by decide +kernel
theorem dX11_ball_1 : decode cX11_ball 1 = .ok (.iload_n 1, 1) := by decide +kernel
theorem dX11_ball_2 : decode cX11_ball 2 = .ok (.invokevirtual 229, 3) := by decide +kernel
theorem dX11_ball_5 : decode cX11_ball 5 = .ok (.istore_n 3, 1) := by decide +kernel
theorem dX11_ball_6 : decode cX11_ball 6 = .ok (.iload_n 3, 1) := by decide +kernel
theorem dX11_ball_7 : decode cX11_ball 7 = .ok (.ifCond .eq 5, 3) := by decide +kernel
theorem dX11_ball_10 : decode cX11_ball 10 = .ok (.iload_n 3, 1) := by decide +kernel
theorem dX11_ball_11 : decode cX11_ball 11 = .ok (.ireturn, 1) := by decide +kernel
theorem dX11_alike_0 : decode cX11_alike 0 = .ok (.aload_n 0, 1) := by decide +kernel
theorem dX11_alike_1 : decode cX11_alike 1 = .ok (.iload_n 1, 1) := by decide +kernel
theorem dX11_alike_2 : decode cX11_alike 2 = .ok (.iload_n 2, 1) := by decide +kernel
theorem dX11_alike_3 : decode cX11_alike 3 = .ok (.invokevirtual 298, 3) := by decide +kernel
theorem dX11_alike_6 : decode cX11_alike 6 = .ok (.istore_n 3, 1) := by decide +kernel
theorem dX11_alike_7 : decode cX11_alike 7 = .ok (.iload_n 3, 1) := by decide +kernel
theorem dX11_alike_8 : decode cX11_alike 8 = .ok (.ifCond .eq 5, 3) := by decide +kernel
theorem dX11_alike_11 : decode cX11_alike 11 = .ok (.iload_n 3, 1) := by decide +kernel
theorem dX11_alike_12 : decode cX11_alike 12 = .ok (.ireturn, 1) := by decide +kernel
theorem dX11_rewind_0 : decode cX11_rewind 0 = .ok (.aload_n 0, 1) := by decide +kernel
theorem dX11_rewind_1 : decode cX11_rewind 1 = .ok (.iload_n 1, 1) := by decide +kernel
theorem dX11_rewind_2 : decode cX11_rewind 2 = .ok (.iload_n 2, 1) := by decide +kernel
theorem dX11_rewind_3 : decode cX11_rewind 3 = .ok (.invokevirtual 298, 3) := by decide +kernel
theorem dX11_rewind_6 : decode cX11_rewind 6 = .ok (.istore_n 3, 1) := by decide +kernel
theorem dX11_rewind_7 : decode cX11_rewind 7 = .ok (.iload_n 3, 1) := by decide +kernel
theorem dX11_rewind_8 : decode cX11_rewind 8 = .ok (.ifCond .eq 5, 3) := by decide +kernel
theorem dX11_rewind_11 : decode cX11_rewind 11 = .ok (.iload_n 3, 1) := by decide +kernel
theorem dX11_rewind_12 : decode cX11_rewind 12 = .ok (.ireturn, 1) := by decide +kernel
theorem dX11_copy_0 : decode cX11_copy 0 = .ok (.iload_n 1, 1) := by decide +kernel
theorem dX11_copy_1 : decode cX11_copy 1 = .ok (.invokestatic 181, 3) := by decide +kernel
theorem dX11_copy_4 : decode cX11_copy 4 = .ok (.ifCond .eq 10, 3) := by decide +kernel
theorem dX11_copy_7 : decode cX11_copy 7 = .ok (.iload_n 2, 1) := by decide +kernel
theorem dX11_copy_8 : decode cX11_copy 8 = .ok (.invokestatic 181, 3) := by decide +kernel
theorem dX11_copy_11 : decode cX11_copy 11 = .ok (.ifCond .ne 6, 3) := by decide +kernel
theorem dX11_copy_14 : decode cX11_copy 14 = .ok (.bipush (-2), 2) := by decide +kernel
theorem dX11_copy_16 : decode cX11_copy 16 = .ok (.ireturn, 1) := by decide +kernel
theorem dX11_copy_17 : decode cX11_copy 17 = .ok (.aload_n 0, 1) := by decide +kernel
theorem dX11_copy_18 : decode cX11_copy 18 = .ok (.iload_n 1, 1) := by decide +kernel
theorem dX11_copy_19 : decode cX11_copy 19 = .ok (.invokevirtual 239, 3) := by decide +kernel
theorem dX11_copy_22 : decode cX11_copy 22 = .ok (.ifCond .ne 6, 3) := by decide +kernel
theorem dX11_copy_25 : decode cX11_copy 25 = .ok (.bipush (-6), 2) := by decide +kernel
theorem dX11_copy_27 : decode cX11_copy 27 = .ok (.ireturn, 1) := by decide +kernel
theorem dX11_put_0 : decode cX11_put 0 = .ok (.aload_n 0, 1) := by decide +kernel
theorem dX11_put_1 : decode cX11_put 1 = .ok (.iload_n 1, 1) := by decide +kernel
theorem dX11_put_2 : decode cX11_put 2 = .ok (.iload_n 2, 1) := by decide +kernel
theorem dX11_put_3 : decode cX11_put 3 = .ok (.invokevirtual 198, 3) := by decide +kernel
theorem dX11_put_6 : decode cX11_put 6 = .ok (.istore_n 3, 1) := by decide +kernel
theorem dX11_put_7 : decode cX11_put 7 = .ok (.iload_n 3, 1) := by decide +kernel
theorem dX11_put_8 : decode cX11_put 8 = .ok (.ifCond .eq 5, 3) := by decide +kernel
theorem dX11_put_11 : decode cX11_put 11 = .ok (.iload_n 3, 1) := by decide +kernel
theorem dX11_put_12 : decode cX11_put 12 = .ok (.ireturn, 1) := by decide +kernel
theorem dX11_read_0 : decode cX11_read 0 = .ok (.aload_n 0, 1) := by decide +kernel
theorem dX11_read_1 : decode cX11_read 1 = .ok (.iload_n 1, 1) := by decide +kernel
theorem dX11_read_2 : decode cX11_read 2 = .ok (.iload_n 2, 1) := by decide +kernel
theorem dX11_read_3 : decode cX11_read 3 = .ok (.invokevirtual 198, 3) := by decide +kernel
theorem dX11_read_6 : decode cX11_read 6 = .ok (.istore_n 3, 1) := by decide +kernel
theorem dX11_read_7 : decode cX11_read 7 = .ok (.iload_n 3, 1) := by decide +kernel
theorem dX11_read_8 : decode cX11_read 8 = .ok (.ifCond .eq 5, 3) := by decide +kernel
theorem dX11_read_11 : decode cX11_read 11 = .ok (.iload_n 3, 1) := by decide +kernel
theorem dX11_read_12 : decode cX11_read 12 = .ok (.ireturn, 1) := by decide +kernel
theorem dX11_dim_0 : decode cX11_dim 0 = .ok (.aload_n 0, 1) := by decide +kernel
theorem dX11_dim_1 : decode cX11_dim 1 = .ok (.iload_n 1, 1) := by decide +kernel
theorem dX11_dim_2 : decode cX11_dim 2 = .ok (.iload_n 2, 1) := by decide +kernel
theorem dX11_dim_3 : decode cX11_dim 3 = .ok (.invokevirtual 198, 3) := by decide +kernel
theorem dX11_dim_6 : decode cX11_dim 6 = .ok (.istore_n 3, 1) := by decide +kernel
theorem dX11_dim_7 : decode cX11_dim 7 = .ok (.iload_n 3, 1) := by decide +kernel
theorem dX11_dim_8 : decode cX11_dim 8 = .ok (.ifCond .eq 5, 3) := by decide +kernel
theorem dX11_dim_11 : decode cX11_dim 11 = .ok (.iload_n 3, 1) := by decide +kernel
theorem dX11_dim_12 : decode cX11_dim 12 = .ok (.ireturn, 1) := by decide +kernel
theorem dX11_bit_0 : decode cX11_bit 0 = .ok (.aload_n 0, 1) := by decide +kernel
theorem dX11_bit_1 : decode cX11_bit 1 = .ok (.iload_n 1, 1) := by decide +kernel
theorem dX11_bit_2 : decode cX11_bit 2 = .ok (.iload_n 2, 1) := by decide +kernel
theorem dX11_bit_3 : decode cX11_bit 3 = .ok (.invokevirtual 198, 3) := by decide +kernel
theorem dX11_bit_6 : decode cX11_bit 6 = .ok (.istore 4, 2) := by decide +kernel
theorem dX11_bit_8 : decode cX11_bit 8 = .ok (.iload 4, 2) := by decide +kernel
theorem dX11_bit_10 : decode cX11_bit 10 = .ok (.ifCond .eq 6, 3) := by decide +kernel
theorem dX11_bit_13 : decode cX11_bit 13 = .ok (.iload 4, 2) := by decide +kernel
theorem dX11_bit_15 : decode cX11_bit 15 = .ok (.ireturn, 1) := by decide +kernel
theorem dX11_place_0 : decode cX11_place 0 = .ok (.aload_n 0, 1) := by decide +kernel
theorem dX11_place_1 : decode cX11_place 1 = .ok (.iload_n 1, 1) := by decide +kernel
theorem dX11_place_2 : decode cX11_place 2 = .ok (.invokevirtual 248, 3) := by decide +kernel
theorem dX11_place_5 : decode cX11_place 5 = .ok (.istore_n 3, 1) := by decide +kernel
theorem dX11_place_6 : decode cX11_place 6 = .ok (.iload_n 3, 1) := by decide +kernel
theorem dX11_place_7 : decode cX11_place 7 = .ok (.ifCond .eq 5, 3) := by decide +kernel
theorem dX11_place_10 : decode cX11_place 10 = .ok (.iload_n 3, 1) := by decide +kernel
theorem dX11_place_11 : decode cX11_place 11 = .ok (.ireturn, 1) := by decide +kernel
theorem dX11_room_0 : decode cX11_room 0 = .ok (.aload_n 0, 1) := by decide +kernel
theorem dX11_room_1 : decode cX11_room 1 = .ok (.iload_n 1, 1) := by decide +kernel
theorem dX11_room_2 : decode cX11_room 2 = .ok (.invokevirtual 248, 3) := by decide +kernel
theorem dX11_room_5 : decode cX11_room 5 = .ok (.istore_n 2, 1) := by decide +kernel
theorem dX11_room_6 : decode cX11_room 6 = .ok (.iload_n 2, 1) := by decide +kernel
theorem dX11_room_7 : decode cX11_room 7 = .ok (.ifCond .eq 7, 3) := by decide +kernel
theorem dX11_room_10 : decode cX11_room 10 = .ok (.iload_n 2, 1) := by decide +kernel
theorem dX11_room_11 : decode cX11_room 11 = .ok (.goto 16, 3) := by decide +kernel
theorem dX11_room_27 : decode cX11_room 27 = .ok (.ireturn, 1) := by decide +kernel
theorem dX11_most_0 : decode cX11_most 0 = .ok (.aload_n 0, 1) := by decide +kernel
theorem dX11_most_1 : decode cX11_most 1 = .ok (.iload_n 1, 1) := by decide +kernel
theorem dX11_most_2 : decode cX11_most 2 = .ok (.invokevirtual 248, 3) := by decide +kernel
theorem dX11_most_5 : decode cX11_most 5 = .ok (.istore_n 2, 1) := by decide +kernel
theorem dX11_most_6 : decode cX11_most 6 = .ok (.iload_n 2, 1) := by decide +kernel
theorem dX11_most_7 : decode cX11_most 7 = .ok (.ifCond .eq 7, 3) := by decide +kernel
theorem dX11_most_10 : decode cX11_most 10 = .ok (.iload_n 2, 1) := by decide +kernel
theorem dX11_most_11 : decode cX11_most 11 = .ok (.goto 24, 3) := by decide +kernel
theorem dX11_most_35 : decode cX11_most 35 = .ok (.ireturn, 1) := by decide +kernel
theorem dX4_isThere_0 : decode cX4_isThere 0 = .ok (.aload_n 0, 1) := by decide +kernel
theorem dX4_isThere_1 : decode cX4_isThere 1 = .ok (.getfield 18, 3) := by decide +kernel
theorem dX4_isThere_4 : decode cX4_isThere 4 = .ok (.ifCond .le 7, 3) := by decide +kernel
theorem dX4_isThere_11 : decode cX4_isThere 11 = .ok (.iconst 0, 1) := by decide +kernel
theorem dX4_isThere_12 : decode cX4_isThere 12 = .ok (.ireturn, 1) := by decide +kernel
theorem dX11_knit_0 : decode cX11_knit 0 = .ok (.iload_n 1, 1) := by decide +kernel
theorem dX11_knit_1 : decode cX11_knit 1 = .ok (.invokestatic 181, 3) := by decide +kernel
theorem dX11_knit_4 : decode cX11_knit 4 = .ok (.ifCond .eq 10, 3) := by decide +kernel
theorem dX11_knit_7 : decode cX11_knit 7 = .ok (.iload_n 2, 1) := by decide +kernel
theorem dX11_knit_8 : decode cX11_knit 8 = .ok (.invokestatic 184, 3) := by decide +kernel
theorem dX11_knit_11 : decode cX11_knit 11 = .ok (.ifCond .ne 6, 3) := by decide +kernel
theorem dX11_knit_14 : decode cX11_knit 14 = .ok (.bipush (-2), 2) := by decide +kernel
theorem dX11_knit_16 : decode cX11_knit 16 = .ok (.ireturn, 1) := by decide +kernel
theorem dX11_knit_17 : decode cX11_knit 17 = .ok (.aload_n 0, 1) := by decide +kernel
theorem dX11_knit_18 : decode cX11_knit 18 = .ok (.getfield 19, 3) := by decide +kernel
theorem dX11_knit_21 : decode cX11_knit 21 = .ok (.getfield 116, 3) := by decide +kernel
theorem dX11_knit_24 : decode cX11_knit 24 = .ok (.invokevirtual 187, 3) := by decide +kernel
theorem dX11_knit_27 : decode cX11_knit 27 = .ok (.ifCond .ne 6, 3) := by decide +kernel
theorem dX11_knit_30 : decode cX11_knit 30 = .ok (.bipush (-6), 2) := by decide +kernel
theorem dX11_knit_32 : decode cX11_knit 32 = .ok (.ireturn, 1) := by decide +kernel
theorem dX11_counts_0 : decode cX11_counts 0 = .ok (.iload_n 1, 1) := by decide +kernel
theorem dX11_counts_1 : decode cX11_counts 1 = .ok (.invokestatic 181, 3) := by decide +kernel
theorem dX11_counts_4 : decode cX11_counts 4 = .ok (.ifCond .eq 13, 3) := by decide +kernel
theorem dX11_counts_7 : decode cX11_counts 7 = .ok (.iload_n 2, 1) := by decide +kernel
theorem dX11_counts_8 : decode cX11_counts 8 = .ok (.ifCond .lt 9, 3) := by decide +kernel
theorem dX11_counts_11 : decode cX11_counts 11 = .ok (.iload_n 2, 1) := by decide +kernel
theorem dX11_counts_12 : decode cX11_counts 12 = .ok (.bipush 8, 2) := by decide +kernel
theorem dX11_counts_14 : decode cX11_counts 14 = .ok (.if_icmp .lt 6, 3) := by decide +kernel
theorem dX11_counts_17 : decode cX11_counts 17 = .ok (.bipush (-2), 2) := by decide +kernel
theorem dX11_counts_19 : decode cX11_counts 19 = .ok (.ireturn, 1) := by decide +kernel
theorem dX11_counts_20 : decode cX11_counts 20 = .ok (.aload_n 0, 1) := by decide +kernel
theorem dX11_counts_21 : decode cX11_counts 21 = .ok (.iload_n 1, 1) := by decide +kernel
theorem dX11_counts_22 : decode cX11_counts 22 = .ok (.invokevirtual 239, 3) := by decide +kernel
theorem dX11_counts_25 : decode cX11_counts 25 = .ok (.ifCond .ne 6, 3) := by decide +kernel
theorem dX11_counts_28 : decode cX11_counts 28 = .ok (.bipush (-6), 2) := by decide +kernel
theorem dX11_counts_30 : decode cX11_counts 30 = .ok (.ireturn, 1) := by decide +kernel
theorem dX11_odds_0 : decode cX11_odds 0 = .ok (.iload_n 1, 1) := by decide +kernel
theorem dX11_odds_1 : decode cX11_odds 1 = .ok (.invokestatic 184, 3) := by decide +kernel
theorem dX11_odds_4 : decode cX11_odds 4 = .ok (.ifCond .eq 10, 3) := by decide +kernel
theorem dX11_odds_7 : decode cX11_odds 7 = .ok (.iload_n 2, 1) := by decide +kernel
theorem dX11_odds_8 : decode cX11_odds 8 = .ok (.invokestatic 276, 3) := by decide +kernel
theorem dX11_odds_11 : decode cX11_odds 11 = .ok (.ifCond .ne 6, 3) := by decide +kernel
theorem dX11_odds_14 : decode cX11_odds 14 = .ok (.bipush (-2), 2) := by decide +kernel
theorem dX11_odds_16 : decode cX11_odds 16 = .ok (.ireturn, 1) := by decide +kernel
theorem dX11_odds_17 : decode cX11_odds 17 = .ok (.aload_n 0, 1) := by decide +kernel
theorem dX11_odds_18 : decode cX11_odds 18 = .ok (.getfield 19, 3) := by decide +kernel
theorem dX11_odds_21 : decode cX11_odds 21 = .ok (.getfield 116, 3) := by decide +kernel
theorem dX11_odds_24 : decode cX11_odds 24 = .ok (.invokevirtual 187, 3) := by decide +kernel
theorem dX11_odds_27 : decode cX11_odds 27 = .ok (.ifCond .ne 6, 3) := by decide +kernel
theorem dX11_odds_30 : decode cX11_odds 30 = .ok (.bipush (-6), 2) := by decide +kernel
theorem dX11_odds_32 : decode cX11_odds 32 = .ok (.ireturn, 1) := by decide +kernel
theorem dX11_carries_0 : decode cX11_carries 0 = .ok (.iload_n 1, 1) := by decide +kernel
theorem dX11_carries_1 : decode cX11_carries 1 = .ok (.invokestatic 142, 3) := by decide +kernel
theorem dX11_carries_4 : decode cX11_carries 4 = .ok (.ifCond .eq 17, 3) := by decide +kernel
theorem dX11_carries_7 : decode cX11_carries 7 = .ok (.iload_n 2, 1) := by decide +kernel
theorem dX11_carries_8 : decode cX11_carries 8 = .ok (.invokestatic 184, 3) := by decide +kernel
theorem dX11_carries_11 : decode cX11_carries 11 = .ok (.ifCond .eq 10, 3) := by decide +kernel
theorem dX11_carries_14 : decode cX11_carries 14 = .ok (.iload_n 3, 1) := by decide +kernel
theorem dX11_carries_15 : decode cX11_carries 15 = .ok (.invokestatic 276, 3) := by decide +kernel
theorem dX11_carries_18 : decode cX11_carries 18 = .ok (.ifCond .ne 6, 3) := by decide +kernel
theorem dX11_carries_21 : decode cX11_carries 21 = .ok (.bipush (-2), 2) := by decide +kernel
theorem dX11_carries_23 : decode cX11_carries 23 = .ok (.ireturn, 1) := by decide +kernel
theorem dX11_carries_24 : decode cX11_carries 24 = .ok (.aload_n 0, 1) := by decide +kernel
theorem dX11_carries_25 : decode cX11_carries 25 = .ok (.getfield 19, 3) := by decide +kernel
theorem dX11_carries_28 : decode cX11_carries 28 = .ok (.getfield 116, 3) := by decide +kernel
theorem dX11_carries_31 : decode cX11_carries 31 = .ok (.invokevirtual 187, 3) := by decide +kernel
theorem dX11_carries_34 : decode cX11_carries 34 = .ok (.ifCond .eq 18, 3) := by decide +kernel
theorem dX11_carries_52 : decode cX11_carries 52 = .ok (.bipush (-6), 2) := by decide +kernel
theorem dX11_carries_54 : decode cX11_carries 54 = .ok (.ireturn, 1) := by decide +kernel
theorem dX11_same_0 : decode cX11_same 0 = .ok (.iload_n 1, 1) := by decide +kernel
theorem dX11_same_1 : decode cX11_same 1 = .ok (.invokestatic 181, 3) := by decide +kernel
theorem dX11_same_4 : decode cX11_same 4 = .ok (.ifCond .eq 17, 3) := by decide +kernel
theorem dX11_same_7 : decode cX11_same 7 = .ok (.iload_n 2, 1) := by decide +kernel
theorem dX11_same_8 : decode cX11_same 8 = .ok (.invokestatic 181, 3) := by decide +kernel
theorem dX11_same_11 : decode cX11_same 11 = .ok (.ifCond .eq 10, 3) := by decide +kernel
theorem dX11_same_14 : decode cX11_same 14 = .ok (.iload_n 3, 1) := by decide +kernel
theorem dX11_same_15 : decode cX11_same 15 = .ok (.invokestatic 142, 3) := by decide +kernel
theorem dX11_same_18 : decode cX11_same 18 = .ok (.ifCond .ne 6, 3) := by decide +kernel
theorem dX11_same_21 : decode cX11_same 21 = .ok (.bipush (-2), 2) := by decide +kernel
theorem dX11_same_23 : decode cX11_same 23 = .ok (.ireturn, 1) := by decide +kernel
theorem dX11_same_24 : decode cX11_same 24 = .ok (.aload_n 0, 1) := by decide +kernel
theorem dX11_same_25 : decode cX11_same 25 = .ok (.iload_n 1, 1) := by decide +kernel
theorem dX11_same_26 : decode cX11_same 26 = .ok (.invokevirtual 239, 3) := by decide +kernel
theorem dX11_same_29 : decode cX11_same 29 = .ok (.ifCond .eq 26, 3) := by decide +kernel
theorem dX11_same_55 : decode cX11_same 55 = .ok (.bipush (-6), 2) := by decide +kernel
theorem dX11_same_57 : decode cX11_same 57 = .ok (.ireturn, 1) := by decide +kernel
theorem dX11_back_0 : decode cX11_back 0 = .ok (.iload_n 1, 1) := by decide +kernel
theorem dX11_back_1 : decode cX11_back 1 = .ok (.ifCond .lt 8, 3) := by decide +kernel
theorem dX11_back_4 : decode cX11_back 4 = .ok (.iload_n 1, 1) := by decide +kernel
theorem dX11_back_5 : decode cX11_back 5 = .ok (.iconst 3, 1) := by decide +kernel
theorem dX11_back_6 : decode cX11_back 6 = .ok (.if_icmp .lt 6, 3) := by decide +kernel
theorem dX11_back_9 : decode cX11_back 9 = .ok (.bipush (-2), 2) := by decide +kernel
theorem dX11_back_11 : decode cX11_back 11 = .ok (.ireturn, 1) := by decide +kernel
theorem dX11_back_12 : decode cX11_back 12 = .ok (.aload_n 0, 1) := by decide +kernel
theorem dX11_back_13 : decode cX11_back 13 = .ok (.getfield 23, 3) := by decide +kernel
theorem dX11_back_16 : decode cX11_back 16 = .ok (.iload_n 1, 1) := by decide +kernel
theorem dX11_back_17 : decode cX11_back 17 = .ok (.aaload, 1) := by decide +kernel
theorem dX11_back_18 : decode cX11_back 18 = .ok (.ifnonnull 6, 3) := by decide +kernel
theorem dX11_back_21 : decode cX11_back 21 = .ok (.bipush (-6), 2) := by decide +kernel
theorem dX11_back_23 : decode cX11_back 23 = .ok (.ireturn, 1) := by decide +kernel
theorem dX5_isThere_0 : decode cX5_isThere 0 = .ok (.aload_n 0, 1) := by decide +kernel
theorem dX5_isThere_1 : decode cX5_isThere 1 = .ok (.getfield 15, 3) := by decide +kernel
theorem dX5_isThere_4 : decode cX5_isThere 4 = .ok (.iconst (-1), 1) := by decide +kernel
theorem dX5_isThere_5 : decode cX5_isThere 5 = .ok (.if_icmp .eq 7, 3) := by decide +kernel
theorem dX5_isThere_12 : decode cX5_isThere 12 = .ok (.iconst 0, 1) := by decide +kernel
theorem dX5_isThere_13 : decode cX5_isThere 13 = .ok (.ireturn, 1) := by decide +kernel
theorem dX11_write_0 : decode cX11_write 0 = .ok (.iload_n 1, 1) := by decide +kernel
theorem dX11_write_1 : decode cX11_write 1 = .ok (.invokestatic 353, 3) := by decide +kernel
theorem dX11_write_4 : decode cX11_write 4 = .ok (.ifCond .ne 6, 3) := by decide +kernel
theorem dX11_write_7 : decode cX11_write 7 = .ok (.bipush (-2), 2) := by decide +kernel
theorem dX11_write_9 : decode cX11_write 9 = .ok (.ireturn, 1) := by decide +kernel
theorem dX11_write_10 : decode cX11_write 10 = .ok (.aload_n 0, 1) := by decide +kernel
theorem dX11_write_11 : decode cX11_write 11 = .ok (.getfield 36, 3) := by decide +kernel
theorem dX11_write_14 : decode cX11_write 14 = .ok (.iload_n 1, 1) := by decide +kernel
theorem dX11_write_15 : decode cX11_write 15 = .ok (.aaload, 1) := by decide +kernel
theorem dX11_write_16 : decode cX11_write 16 = .ok (.invokevirtual 359, 3) := by decide +kernel
theorem dX11_write_19 : decode cX11_write 19 = .ok (.ifCond .ne 6, 3) := by decide +kernel
theorem dX11_write_22 : decode cX11_write 22 = .ok (.bipush (-6), 2) := by decide +kernel
theorem dX11_write_24 : decode cX11_write 24 = .ok (.ireturn, 1) := by decide +kernel
theorem dX11_paste_0 : decode cX11_paste 0 = .ok (.iload_n 1, 1) := by decide +kernel
theorem dX11_paste_1 : decode cX11_paste 1 = .ok (.invokestatic 353, 3) := by decide +kernel
theorem dX11_paste_4 : decode cX11_paste 4 = .ok (.ifCond .eq 10, 3) := by decide +kernel
theorem dX11_paste_7 : decode cX11_paste 7 = .ok (.iload_n 3, 1) := by decide +kernel
theorem dX11_paste_8 : decode cX11_paste 8 = .ok (.invokestatic 353, 3) := by decide +kernel
theorem dX11_paste_11 : decode cX11_paste 11 = .ok (.ifCond .ne 6, 3) := by decide +kernel
theorem dX11_paste_14 : decode cX11_paste 14 = .ok (.bipush (-2), 2) := by decide +kernel
theorem dX11_paste_16 : decode cX11_paste 16 = .ok (.ireturn, 1) := by decide +kernel
theorem dX11_paste_17 : decode cX11_paste 17 = .ok (.aload_n 0, 1) := by decide +kernel
theorem dX11_paste_18 : decode cX11_paste 18 = .ok (.getfield 36, 3) := by decide +kernel
theorem dX11_paste_21 : decode cX11_paste 21 = .ok (.iload_n 1, 1) := by decide +kernel
theorem dX11_paste_22 : decode cX11_paste 22 = .ok (.aaload, 1) := by decide +kernel
theorem dX11_paste_23 : decode cX11_paste 23 = .ok (.invokevirtual 359, 3) := by decide +kernel
theorem dX11_paste_26 : decode cX11_paste 26 = .ok (.ifCond .eq 15, 3) := by decide +kernel
theorem dX11_paste_41 : decode cX11_paste 41 = .ok (.bipush (-6), 2) := by decide +kernel
theorem dX11_paste_43 : decode cX11_paste 43 = .ok (.ireturn, 1) := by decide +kernel
theorem dX11_lay_0 : decode cX11_lay 0 = .ok (.iload_n 1, 1) := by decide +kernel
theorem dX11_lay_1 : decode cX11_lay 1 = .ok (.invokestatic 353, 3) := by decide +kernel
theorem dX11_lay_4 : decode cX11_lay 4 = .ok (.ifCond .eq 10, 3) := by decide +kernel
theorem dX11_lay_7 : decode cX11_lay 7 = .ok (.iload_n 2, 1) := by decide +kernel
theorem dX11_lay_8 : decode cX11_lay 8 = .ok (.invokestatic 181, 3) := by decide +kernel
theorem dX11_lay_11 : decode cX11_lay 11 = .ok (.ifCond .ne 6, 3) := by decide +kernel
theorem dX11_lay_14 : decode cX11_lay 14 = .ok (.bipush (-2), 2) := by decide +kernel
theorem dX11_lay_16 : decode cX11_lay 16 = .ok (.ireturn, 1) := by decide +kernel
theorem dX11_lay_17 : decode cX11_lay 17 = .ok (.aload_n 0, 1) := by decide +kernel
theorem dX11_lay_18 : decode cX11_lay 18 = .ok (.getfield 36, 3) := by decide +kernel
theorem dX11_lay_21 : decode cX11_lay 21 = .ok (.iload_n 1, 1) := by decide +kernel
theorem dX11_lay_22 : decode cX11_lay 22 = .ok (.aaload, 1) := by decide +kernel
theorem dX11_lay_23 : decode cX11_lay 23 = .ok (.invokevirtual 359, 3) := by decide +kernel
theorem dX11_lay_26 : decode cX11_lay 26 = .ok (.ifCond .eq 11, 3) := by decide +kernel
theorem dX11_lay_37 : decode cX11_lay 37 = .ok (.bipush (-6), 2) := by decide +kernel
theorem dX11_lay_39 : decode cX11_lay 39 = .ok (.ireturn, 1) := by decide +kernel
