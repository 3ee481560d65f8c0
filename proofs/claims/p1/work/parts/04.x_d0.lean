theorem dX11_isCloth_0 : decode cX11_isCloth 0 = .ok (.iload_n 0, 1) := by decide +kernel
theorem dX11_isCloth_1 : decode cX11_isCloth 1 = .ok (.ifCond .lt 12, 3) := by decide +kernel
theorem dX11_isCloth_13 : decode cX11_isCloth 13 = .ok (.iconst 0, 1) := by decide +kernel
theorem dX11_isCloth_14 : decode cX11_isCloth 14 = .ok (.ireturn, 1) := by decide +kernel
theorem dX11_isCloth_4 : decode cX11_isCloth 4 = .ok (.iload_n 0, 1) := by decide +kernel
theorem dX11_isCloth_5 : decode cX11_isCloth 5 = .ok (.iconst 4, 1) := by decide +kernel
theorem dX11_isCloth_6 : decode cX11_isCloth 6 = .ok (.if_icmp .ge 7, 3) := by decide +kernel
theorem dX11_isCloth_9 : decode cX11_isCloth 9 = .ok (.iconst 1, 1) := by decide +kernel
theorem dX11_isCloth_10 : decode cX11_isCloth 10 = .ok (.goto 4, 3) := by decide +kernel
theorem dX11_isWay_0 : decode cX11_isWay 0 = .ok (.iload_n 0, 1) := by decide +kernel
theorem dX11_isWay_1 : decode cX11_isWay 1 = .ok (.ifCond .lt 13, 3) := by decide +kernel
theorem dX11_isWay_14 : decode cX11_isWay 14 = .ok (.iconst 0, 1) := by decide +kernel
theorem dX11_isWay_15 : decode cX11_isWay 15 = .ok (.ireturn, 1) := by decide +kernel
theorem dX11_isWay_4 : decode cX11_isWay 4 = .ok (.iload_n 0, 1) := by decide +kernel
theorem dX11_isWay_5 : decode cX11_isWay 5 = .ok (.bipush 6, 2) := by decide +kernel
theorem dX11_isWay_7 : decode cX11_isWay 7 = .ok (.if_icmp .ge 7, 3) := by decide +kernel
theorem dX11_isWay_10 : decode cX11_isWay 10 = .ok (.iconst 1, 1) := by decide +kernel
theorem dX11_isWay_11 : decode cX11_isWay 11 = .ok (.goto 4, 3) := by decide +kernel
theorem dX11_isSlot_0 : decode cX11_isSlot 0 = .ok (.iload_n 0, 1) := by decide +kernel
theorem dX11_isSlot_1 : decode cX11_isSlot 1 = .ok (.ifCond .lt 12, 3) := by decide +kernel
theorem dX11_isSlot_13 : decode cX11_isSlot 13 = .ok (.iconst 0, 1) := by decide +kernel
theorem dX11_isSlot_14 : decode cX11_isSlot 14 = .ok (.ireturn, 1) := by decide +kernel
theorem dX11_isSlot_4 : decode cX11_isSlot 4 = .ok (.iload_n 0, 1) := by decide +kernel
theorem dX11_isSlot_5 : decode cX11_isSlot 5 = .ok (.iconst 4, 1) := by decide +kernel
theorem dX11_isSlot_6 : decode cX11_isSlot 6 = .ok (.if_icmp .ge 7, 3) := by decide +kernel
theorem dX11_isSlot_9 : decode cX11_isSlot 9 = .ok (.iconst 1, 1) := by decide +kernel
theorem dX11_isSlot_10 : decode cX11_isSlot 10 = .ok (.goto 4, 3) := by decide +kernel
theorem dX11_isSeed_0 : decode cX11_isSeed 0 = .ok (.iload_n 0, 1) := by decide +kernel
theorem dX11_isSeed_1 : decode cX11_isSeed 1 = .ok (.ifCond .lt 14, 3) := by decide +kernel
theorem dX11_isSeed_15 : decode cX11_isSeed 15 = .ok (.iconst 0, 1) := by decide +kernel
theorem dX11_isSeed_16 : decode cX11_isSeed 16 = .ok (.ireturn, 1) := by decide +kernel
theorem dX11_isSeed_4 : decode cX11_isSeed 4 = .ok (.iload_n 0, 1) := by decide +kernel
theorem dX11_isSeed_5 : decode cX11_isSeed 5 = .ok (.ldc_w 385, 3) := by decide +kernel
theorem dX11_isSeed_8 : decode cX11_isSeed 8 = .ok (.if_icmp .gt 7, 3) := by decide +kernel
theorem dX11_isSeed_11 : decode cX11_isSeed 11 = .ok (.iconst 1, 1) := by decide +kernel
theorem dX11_isSeed_12 : decode cX11_isSeed 12 = .ok (.goto 4, 3) := by decide +kernel
theorem dX11_isManyKnitted_0 : decode cX11_isManyKnitted 0 = .ok (.iload_n 0, 1) := by decide +kernel
theorem dX11_isManyKnitted_1 : decode cX11_isManyKnitted 1 = .ok (.iconst 1, 1) := by decide +kernel
theorem dX11_isManyKnitted_2 : decode cX11_isManyKnitted 2 = .ok (.if_icmp .lt 13, 3) := by decide +kernel
theorem dX11_isManyKnitted_15 : decode cX11_isManyKnitted 15 = .ok (.iconst 0, 1) := by decide +kernel
theorem dX11_isManyKnitted_16 : decode cX11_isManyKnitted 16 = .ok (.ireturn, 1) := by decide +kernel
theorem dX11_isManyKnitted_5 : decode cX11_isManyKnitted 5 = .ok (.iload_n 0, 1) := by decide +kernel
theorem dX11_isManyKnitted_6 : decode cX11_isManyKnitted 6 = .ok (.bipush 50, 2) := by decide +kernel
theorem dX11_isManyKnitted_8 : decode cX11_isManyKnitted 8 = .ok (.if_icmp .gt 7, 3) := by decide +kernel
theorem dX11_isManyKnitted_11 : decode cX11_isManyKnitted 11 = .ok (.iconst 1, 1) := by decide +kernel
theorem dX11_isManyKnitted_12 : decode cX11_isManyKnitted 12 = .ok (.goto 4, 3) := by decide +kernel
theorem dX11_hasCloth_0 : decode cX11_hasCloth 0 = .ok (.iload_n 1, 1) := by decide +kernel
theorem dX11_hasCloth_1 : decode cX11_hasCloth 1 = .ok (.invokestatic 181, 3) := by decide +kernel
theorem dX11_hasCloth_4 : decode cX11_hasCloth 4 = .ok (.ifCond .eq 22, 3) := by decide +kernel
theorem dX11_hasCloth_26 : decode cX11_hasCloth 26 = .ok (.iconst 0, 1) := by decide +kernel
theorem dX11_hasCloth_27 : decode cX11_hasCloth 27 = .ok (.ireturn, 1) := by decide +kernel
theorem dX11_hasCloth_7 : decode cX11_hasCloth 7 = .ok (.aload_n 0, 1) := by decide +kernel
theorem dX11_hasCloth_8 : decode cX11_hasCloth 8 = .ok (.getfield 19, 3) := by decide +kernel
theorem dX11_hasCloth_11 : decode cX11_hasCloth 11 = .ok (.getfield 190, 3) := by decide +kernel
theorem dX11_hasCloth_14 : decode cX11_hasCloth 14 = .ok (.iload_n 1, 1) := by decide +kernel
theorem dX11_hasCloth_15 : decode cX11_hasCloth 15 = .ok (.aaload, 1) := by decide +kernel
theorem dX11_hasCloth_16 : decode cX11_hasCloth 16 = .ok (.getfield 386, 3) := by decide +kernel
theorem dX11_hasCloth_19 : decode cX11_hasCloth 19 = .ok (.ifCond .eq 7, 3) := by decide +kernel
theorem dX11_refusalOfCloth_0 : decode cX11_refusalOfCloth 0 = .ok (.iload_n 1, 1) := by decide +kernel
theorem dX11_refusalOfCloth_1 : decode cX11_refusalOfCloth 1 = .ok (.invokestatic 181, 3) := by decide +kernel
theorem dX11_refusalOfCloth_4 : decode cX11_refusalOfCloth 4 = .ok (.ifCond .ne 6, 3) := by decide +kernel
theorem dX11_refusalOfCloth_10 : decode cX11_refusalOfCloth 10 = .ok (.aload_n 0, 1) := by decide +kernel
theorem dX11_refusalOfCloth_11 : decode cX11_refusalOfCloth 11 = .ok (.iload_n 1, 1) := by decide +kernel
theorem dX11_refusalOfCloth_12 : decode cX11_refusalOfCloth 12 = .ok (.invokevirtual 239, 3) := by decide +kernel
theorem dX11_refusalOfCloth_15 : decode cX11_refusalOfCloth 15 = .ok (.ifCond .eq 7, 3) := by decide +kernel
theorem dX11_refusalOfCloth_22 : decode cX11_refusalOfCloth 22 = .ok (.bipush (-6), 2) := by decide +kernel
theorem dX11_refusalOfCloth_24 : decode cX11_refusalOfCloth 24 = .ok (.ireturn, 1) := by decide +kernel
theorem dX11_refusalOfCloth_7 : decode cX11_refusalOfCloth 7 = .ok (.bipush (-2), 2) := by decide +kernel
theorem dX11_refusalOfCloth_9 : decode cX11_refusalOfCloth 9 = .ok (.ireturn, 1) := by decide +kernel
theorem dX11_refusalOfCloths_0 : decode cX11_refusalOfCloths 0 = .ok (.iload_n 1, 1) := by decide +kernel
theorem dX11_refusalOfCloths_1 : decode cX11_refusalOfCloths 1 = .ok (.invokestatic 181, 3) := by decide +kernel
theorem dX11_refusalOfCloths_4 : decode cX11_refusalOfCloths 4 = .ok (.ifCond .eq 10, 3) := by decide +kernel
theorem dX11_refusalOfCloths_14 : decode cX11_refusalOfCloths 14 = .ok (.bipush (-2), 2) := by decide +kernel
theorem dX11_refusalOfCloths_16 : decode cX11_refusalOfCloths 16 = .ok (.ireturn, 1) := by decide +kernel
theorem dX11_refusalOfCloths_7 : decode cX11_refusalOfCloths 7 = .ok (.iload_n 2, 1) := by decide +kernel
theorem dX11_refusalOfCloths_8 : decode cX11_refusalOfCloths 8 = .ok (.invokestatic 181, 3) := by decide +kernel
theorem dX11_refusalOfCloths_11 : decode cX11_refusalOfCloths 11 = .ok (.ifCond .ne 6, 3) := by decide +kernel
theorem dX11_refusalOfCloths_17 : decode cX11_refusalOfCloths 17 = .ok (.aload_n 0, 1) := by decide +kernel
theorem dX11_refusalOfCloths_18 : decode cX11_refusalOfCloths 18 = .ok (.iload_n 1, 1) := by decide +kernel
theorem dX11_refusalOfCloths_19 : decode cX11_refusalOfCloths 19 = .ok (.invokevirtual 239, 3) := by decide +kernel
theorem dX11_refusalOfCloths_22 : decode cX11_refusalOfCloths 22 = .ok (.ifCond .eq 15, 3) := by decide +kernel
theorem dX11_refusalOfCloths_37 : decode cX11_refusalOfCloths 37 = .ok (.bipush (-6), 2) := by decide +kernel
theorem dX11_refusalOfCloths_39 : decode cX11_refusalOfCloths 39 = .ok (.ireturn, 1) := by decide +kernel
theorem dX11_refusalOfWay_0 : decode cX11_refusalOfWay 0 = .ok (.iload_n 1, 1) := by decide +kernel
theorem dX11_refusalOfWay_1 : decode cX11_refusalOfWay 1 = .ok (.invokestatic 142, 3) := by decide +kernel
theorem dX11_refusalOfWay_4 : decode cX11_refusalOfWay 4 = .ok (.ifCond .ne 6, 3) := by decide +kernel
theorem dX11_refusalOfWay_10 : decode cX11_refusalOfWay 10 = .ok (.aload_n 0, 1) := by decide +kernel
theorem dX11_refusalOfWay_11 : decode cX11_refusalOfWay 11 = .ok (.getfield 19, 3) := by decide +kernel
theorem dX11_refusalOfWay_14 : decode cX11_refusalOfWay 14 = .ok (.getfield 146, 3) := by decide +kernel
theorem dX11_refusalOfWay_17 : decode cX11_refusalOfWay 17 = .ok (.iload_n 1, 1) := by decide +kernel
theorem dX11_refusalOfWay_18 : decode cX11_refusalOfWay 18 = .ok (.aaload, 1) := by decide +kernel
theorem dX11_refusalOfWay_19 : decode cX11_refusalOfWay 19 = .ok (.getfield 232, 3) := by decide +kernel
theorem dX11_refusalOfWay_22 : decode cX11_refusalOfWay 22 = .ok (.ifCond .eq 7, 3) := by decide +kernel
theorem dX11_refusalOfWay_29 : decode cX11_refusalOfWay 29 = .ok (.bipush (-6), 2) := by decide +kernel
theorem dX11_refusalOfWay_31 : decode cX11_refusalOfWay 31 = .ok (.ireturn, 1) := by decide +kernel
theorem dX11_refusalOfWay_7 : decode cX11_refusalOfWay 7 = .ok (.bipush (-2), 2) := by decide +kernel
theorem dX11_refusalOfWay_9 : decode cX11_refusalOfWay 9 = .ok (.ireturn, 1) := by decide +kernel
theorem dX11_refusalOfReading_0 : decode cX11_refusalOfReading 0 = .ok (.iload_n 1, 1) := by decide +kernel
theorem dX11_refusalOfReading_1 : decode cX11_refusalOfReading 1 = .ok (.invokestatic 181, 3) := by decide +kernel
theorem dX11_refusalOfReading_4 : decode cX11_refusalOfReading 4 = .ok (.ifCond .eq 10, 3) := by decide +kernel
theorem dX11_refusalOfReading_14 : decode cX11_refusalOfReading 14 = .ok (.bipush (-2), 2) := by decide +kernel
theorem dX11_refusalOfReading_16 : decode cX11_refusalOfReading 16 = .ok (.ireturn, 1) := by decide +kernel
theorem dX11_refusalOfReading_7 : decode cX11_refusalOfReading 7 = .ok (.iload_n 2, 1) := by decide +kernel
theorem dX11_refusalOfReading_8 : decode cX11_refusalOfReading 8 = .ok (.invokestatic 142, 3) := by decide +kernel
theorem dX11_refusalOfReading_11 : decode cX11_refusalOfReading 11 = .ok (.ifCond .ne 6, 3) := by decide +kernel
theorem dX11_refusalOfReading_17 : decode cX11_refusalOfReading 17 = .ok (.aload_n 0, 1) := by decide +kernel
theorem dX11_refusalOfReading_18 : decode cX11_refusalOfReading 18 = .ok (.iload_n 1, 1) := by decide +kernel
theorem dX11_refusalOfReading_19 : decode cX11_refusalOfReading 19 = .ok (.invokevirtual 239, 3) := by decide +kernel
theorem dX11_refusalOfReading_22 : decode cX11_refusalOfReading 22 = .ok (.ifCond .eq 22, 3) := by decide +kernel
theorem dX11_refusalOfReading_44 : decode cX11_refusalOfReading 44 = .ok (.bipush (-6), 2) := by decide +kernel
theorem dX11_refusalOfReading_46 : decode cX11_refusalOfReading 46 = .ok (.ireturn, 1) := by decide +kernel
theorem dX11_says_0 : decode cX11_says 0 = .ok (.aload_n 0, 1) := by decide +kernel
theorem dX11_says_1 : decode cX11_says 1 = .ok (.iload_n 1, 1) := by decide +kernel
theorem dX11_says_2 : decode cX11_says 2 = .ok (.invokevirtual 229, 3) := by decide +kernel
theorem dX11_says_5 : decode cX11_says 5 = .ok (.istore_n 2, 1) := by decide +kernel
theorem dX11_says_6 : decode cX11_says 6 = .ok (.iload_n 2, 1) := by decide +kernel
theorem dX11_says_7 : decode cX11_says 7 = .ok (.ifCond .eq 5, 3) := by decide +kernel
theorem dX11_says_10 : decode cX11_says 10 = .ok (.iload_n 2, 1) := by decide +kernel
theorem dX11_says_11 : decode cX11_says 11 = .ok (.ireturn, 1) := by decide +kernel
theorem dX11_stops_0 : decode cX11_stops 0 = .ok (.aload_n 0, 1) := by decide +kernel
theorem dX11_stops_1 : decode cX11_stops 1 = .ok (.iload_n 1, 1) := by decide +kernel
theorem dX11_stops_2 : decode cX11_stops 2 = .ok (.invokevirtual 229, 3) := by decide +kernel
theorem dX11_stops_5 : decode cX11_stops 5 = .ok (.istore_n 2, 1) := by decide +kernel
theorem dX11_stops_6 : decode cX11_stops 6 = .ok (.iload_n 2, 1) := by decide +kernel
theorem dX11_stops_7 : decode cX11_stops 7 = .ok (.ifCond .eq 7, 3) := by decide +kernel
theorem dX11_stops_10 : decode cX11_stops 10 = .ok (.iload_n 2, 1) := by decide +kernel
theorem dX11_stops_11 : decode cX11_stops 11 = .ok (.goto 16, 3) := by decide +kernel
theorem dX11_stops_27 : decode cX11_stops 27 = .ok (.ireturn, 1) := by decide +kernel
theorem dX11_best_0 : decode cX11_best 0 = .ok (.aload_n 0, 1) := by decide +kernel
theorem dX11_best_1 : decode cX11_best 1 = .ok (.iload_n 1, 1) := by decide +kernel
theorem dX11_best_2 : decode cX11_best 2 = .ok (.invokevirtual 229, 3) := by decide +kernel
theorem dX11_best_5 : decode cX11_best 5 = .ok (.istore_n 2, 1) := by decide +kernel
theorem dX11_best_6 : decode cX11_best 6 = .ok (.iload_n 2, 1) := by decide +kernel
theorem dX11_best_7 : decode cX11_best 7 = .ok (.ifCond .eq 5, 3) := by decide +kernel
theorem dX11_best_10 : decode cX11_best 10 = .ok (.iload_n 2, 1) := by decide +kernel
theorem dX11_best_11 : decode cX11_best 11 = .ok (.ireturn, 1) := by decide +kernel
theorem dX11_lose_0 : decode cX11_lose 0 = .ok (.aload_n 0, 1) := by decide +kernel
theorem dX11_lose_1 : decode cX11_lose 1 = .ok (.iload_n 1, 1) := by decide +kernel
theorem dX11_lose_2 : decode cX11_lose 2 = .ok (.invokevirtual 229, 3) := by decide +kernel
theorem dX11_lose_5 : decode cX11_lose 5 = .ok (.istore_n 2, 1) := by decide +kernel
theorem dX11_lose_6 : decode cX11_lose 6 = .ok (.iload_n 2, 1) := by decide +kernel
theorem dX11_lose_7 : decode cX11_lose 7 = .ok (.ifCond .eq 5, 3) := by decide +kernel
theorem dX11_lose_10 : decode cX11_lose 10 = .ok (.iload_n 2, 1) := by decide +kernel
theorem dX11_lose_11 : decode cX11_lose 11 = .ok (.ireturn, 1) := by decide +kernel
theorem dX11_mend_0 : decode cX11_mend 0 = .ok (.aload_n 0, 1) := by decide +kernel
theorem dX11_mend_1 : decode cX11_mend 1 = .ok (.iload_n 1, 1) := by decide +kernel
theorem dX11_mend_2 : decode cX11_mend 2 = .ok (.invokevirtual 229, 3) := by decide +kernel
theorem dX11_mend_5 : decode cX11_mend 5 = .ok (.istore_n 2, 1) := by decide +kernel
theorem dX11_mend_6 : decode cX11_mend 6 = .ok (.iload_n 2, 1) := by decide +kernel
theorem dX11_mend_7 : decode cX11_mend 7 = .ok (.ifCond .eq 5, 3) := by decide +kernel
theorem dX11_mend_10 : decode cX11_mend 10 = .ok (.iload_n 2, 1) := by decide +kernel
theorem dX11_mend_11 : decode cX11_mend 11 = .ok (.ireturn, 1) := by decide +kernel
theorem dX11_ball_0 : decode cX11_ball 0 = .ok (.aload_n 0, 1) := by decide +kernel
theorem dX11_ball_1 : decode cX11_ball 1 = .ok (.iload_n 1, 1) := by decide +kernel
theorem dX11_ball_2 : decode cX11_ball 2 = .ok (.invokevirtual 229, 3) := by decide +kernel
theorem dX11_ball_5 : decode cX11_ball 5 = .ok (.istore_n 3, 1) := by decide +kernel
theorem dX11_ball_6 : decode cX11_ball 6 = .ok (.iload_n 3, 1) := by decide +kernel
theorem dX11_ball_7 : decode cX11_ball 7 = .ok (.ifCond .eq 5, 3) := by decide +kernel
theorem dX11_ball_10 : decode cX11_ball 10 = .ok (.iload_n 3, 1) := by decide +kernel
theorem dX11_ball_11 : decode cX11_ball 11 = .ok (.ireturn, 1) := by decide +kernel
theorem dX11_alike_0 : decode cX11_alike 0 = .ok (.aload_n 0, 1) := by decide +kernel
theorem dX11_alike_1 : decode cX11_alike 1 = .ok (.iload_n 1, 1) := by decide +kernel
theorem dX11_alike_2 : decode cX11_alike 2 = .ok (.iload_n 2, 1) := by decide +kernel
theorem dX11_alike_3 : decode cX11_alike 3 = .ok (.invokevirtual 298, 3) := by decide +kernel
theorem dX11_alike_6 : decode cX11_alike 6 = .ok (.istore_n 3, 1) := by decide +kernel
theorem dX11_alike_7 : decode cX11_alike 7 = .ok (.iload_n 3, 1) := by decide +kernel
theorem dX11_alike_8 : decode cX11_alike 8 = .ok (.ifCond .eq 5, 3) := by decide +kernel
theorem dX11_alike_11 : decode cX11_alike 11 = .ok (.iload_n 3, 1) := by decide +kernel
theorem dX11_alike_12 : decode cX11_alike 12 = .ok (.ireturn, 1) := by decide +kernel
theorem dX11_rewind_0 : decode cX11_rewind 0 = .ok (.aload_n 0, 1) := by decide +kernel
theorem dX11_rewind_1 : decode cX11_rewind 1 = .ok (.iload_n 1, 1) := by decide +kernel
theorem dX11_rewind_2 : decode cX11_rewind 2 = .ok (.iload_n 2, 1) := by decide +kernel
theorem dX11_rewind_3 : decode cX11_rewind 3 = .ok (.invokevirtual 298, 3) := by decide +kernel
theorem dX11_rewind_6 : decode cX11_rewind 6 = .ok (.istore_n 3, 1) := by decide +kernel
theorem dX11_rewind_7 : decode cX11_rewind 7 = .ok (.iload_n 3, 1) := by decide +kernel
theorem dX11_rewind_8 : decode cX11_rewind 8 = .ok (.ifCond .eq 5, 3) := by decide +kernel
theorem dX11_rewind_11 : decode cX11_rewind 11 = .ok (.iload_n 3, 1) := by decide +kernel
theorem dX11_rewind_12 : decode cX11_rewind 12 = .ok (.ireturn, 1) := by decide +kernel
theorem dX11_copy_0 : decode cX11_copy 0 = .ok (.iload_n 1, 1) := by decide +kernel
theorem dX11_copy_1 : decode cX11_copy 1 = .ok (.invokestatic 181, 3) := by decide +kernel
theorem dX11_copy_4 : decode cX11_copy 4 = .ok (.ifCond .eq 10, 3) := by decide +kernel
theorem dX11_copy_14 : decode cX11_copy 14 = .ok (.bipush (-2), 2) := by decide +kernel
theorem dX11_copy_16 : decode cX11_copy 16 = .ok (.ireturn, 1) := by decide +kernel
theorem dX11_copy_7 : decode cX11_copy 7 = .ok (.iload_n 2, 1) := by decide +kernel
theorem dX11_copy_8 : decode cX11_copy 8 = .ok (.invokestatic 181, 3) := by decide +kernel
theorem dX11_copy_11 : decode cX11_copy 11 = .ok (.ifCond .ne 6, 3) := by decide +kernel
theorem dX11_copy_17 : decode cX11_copy 17 = .ok (.aload_n 0, 1) := by decide +kernel
theorem dX11_copy_18 : decode cX11_copy 18 = .ok (.iload_n 1, 1) := by decide +kernel
theorem dX11_copy_19 : decode cX11_copy 19 = .ok (.invokevirtual 239, 3) := by decide +kernel
theorem dX11_copy_22 : decode cX11_copy 22 = .ok (.ifCond .ne 6, 3) := by decide +kernel
theorem dX11_copy_25 : decode cX11_copy 25 = .ok (.bipush (-6), 2) := by decide +kernel
theorem dX11_copy_27 : decode cX11_copy 27 = .ok (.ireturn, 1) := by decide +kernel
theorem dX11_put_0 : decode cX11_put 0 = .ok (.aload_n 0, 1) := by decide +kernel
theorem dX11_put_1 : decode cX11_put 1 = .ok (.iload_n 1, 1) := by decide +kernel
theorem dX11_put_2 : decode cX11_put 2 = .ok (.iload_n 2, 1) := by decide +kernel
theorem dX11_put_3 : decode cX11_put 3 = .ok (.invokevirtual 198, 3) := by decide +kernel
theorem dX11_put_6 : decode cX11_put 6 = .ok (.istore_n 3, 1) := by decide +kernel
theorem dX11_put_7 : decode cX11_put 7 = .ok (.iload_n 3, 1) := by decide +kernel
theorem dX11_put_8 : decode cX11_put 8 = .ok (.ifCond .eq 5, 3) := by decide +kernel
theorem dX11_put_11 : decode cX11_put 11 = .ok (.iload_n 3, 1) := by decide +kernel
theorem dX11_put_12 : decode cX11_put 12 = .ok (.ireturn, 1) := by decide +kernel
theorem dX11_read_0 : decode cX11_read 0 = .ok (.aload_n 0, 1) := by decide +kernel
theorem dX11_read_1 : decode cX11_read 1 = .ok (.iload_n 1, 1) := by decide +kernel
theorem dX11_read_2 : decode cX11_read 2 = .ok (.iload_n 2, 1) := by decide +kernel
theorem dX11_read_3 : decode cX11_read 3 = .ok (.invokevirtual 198, 3) := by decide +kernel
theorem dX11_read_6 : decode cX11_read 6 = .ok (.istore_n 3, 1) := by decide +kernel
theorem dX11_read_7 : decode cX11_read 7 = .ok (.iload_n 3, 1) := by decide +kernel
theorem dX11_read_8 : decode cX11_read 8 = .ok (.ifCond .eq 5, 3) := by decide +kernel
theorem dX11_read_11 : decode cX11_read 11 = .ok (.iload_n 3, 1) := by decide +kernel
theorem dX11_read_12 : decode cX11_read 12 = .ok (.ireturn, 1) := by decide +kernel
theorem dX11_dim_0 : decode cX11_dim 0 = .ok (.aload_n 0, 1) := by decide +kernel
theorem dX11_dim_1 : decode cX11_dim 1 = .ok (.iload_n 1, 1) := by decide +kernel
theorem dX11_dim_2 : decode cX11_dim 2 = .ok (.iload_n 2, 1) := by decide +kernel
theorem dX11_dim_3 : decode cX11_dim 3 = .ok (.invokevirtual 198, 3) := by decide +kernel
theorem dX11_dim_6 : decode cX11_dim 6 = .ok (.istore_n 3, 1) := by decide +kernel
theorem dX11_dim_7 : decode cX11_dim 7 = .ok (.iload_n 3, 1) := by decide +kernel
theorem dX11_dim_8 : decode cX11_dim 8 = .ok (.ifCond .eq 5, 3) := by decide +kernel
theorem dX11_dim_11 : decode cX11_dim 11 = .ok (.iload_n 3, 1) := by decide +kernel
theorem dX11_dim_12 : decode cX11_dim 12 = .ok (.ireturn, 1) := by decide +kernel
theorem dX11_bit_0 : decode cX11_bit 0 = .ok (.aload_n 0, 1) := by decide +kernel
theorem dX11_bit_1 : decode cX11_bit 1 = .ok (.iload_n 1, 1) := by decide +kernel
theorem dX11_bit_2 : decode cX11_bit 2 = .ok (.iload_n 2, 1) := by decide +kernel
theorem dX11_bit_3 : decode cX11_bit 3 = .ok (.invokevirtual 198, 3) := by decide +kernel
theorem dX11_bit_6 : decode cX11_bit 6 = .ok (.istore 4, 2) := by decide +kernel
theorem dX11_bit_8 : decode cX11_bit 8 = .ok (.iload 4, 2) := by decide +kernel
theorem dX11_bit_10 : decode cX11_bit 10 = .ok (.ifCond .eq 6, 3) := by decide +kernel
theorem dX11_bit_13 : decode cX11_bit 13 = .ok (.iload 4, 2) := by decide +kernel
theorem dX11_bit_15 : decode cX11_bit 15 = .ok (.ireturn, 1) := by decide +kernel
theorem dX11_place_0 : decode cX11_place 0 = .ok (.aload_n 0, 1) := by decide +kernel
theorem dX11_place_1 : decode cX11_place 1 = .ok (.iload_n 1, 1) := by decide +kernel
theorem dX11_place_2 : decode cX11_place 2 = .ok (.invokevirtual 248, 3) := by decide +kernel
theorem dX11_place_5 : decode cX11_place 5 = .ok (.istore_n 3, 1) := by decide +kernel
theorem dX11_place_6 : decode cX11_place 6 = .ok (.iload_n 3, 1) := by decide +kernel
theorem dX11_place_7 : decode cX11_place 7 = .ok (.ifCond .eq 5, 3) := by decide +kernel
theorem dX11_place_10 : decode cX11_place 10 = .ok (.iload_n 3, 1) := by decide +kernel
theorem dX11_place_11 : decode cX11_place 11 = .ok (.ireturn, 1) := by decide +kernel
theorem dX11_room_0 : decode cX11_room 0 = .ok (.aload_n 0, 1) := by decide +kernel
theorem dX11_room_1 : decode cX11_room 1 = .ok (.iload_n 1, 1) := by decide +kernel
theorem dX11_room_2 : decode cX11_room 2 = .ok (.invokevirtual 248, 3) := by decide +kernel
theorem dX11_room_5 : decode cX11_room 5 = .ok (.istore_n 2, 1) := by decide +kernel
theorem dX11_room_6 : decode cX11_room 6 = .ok (.iload_n 2, 1) := by decide +kernel
theorem dX11_room_7 : decode cX11_room 7 = .ok (.ifCond .eq 7, 3) := by decide +kernel
theorem dX11_room_10 : decode cX11_room 10 = .ok (.iload_n 2, 1) := by decide +kernel
theorem dX11_room_11 : decode cX11_room 11 = .ok (.goto 16, 3) := by decide +kernel
theorem dX11_room_27 : decode cX11_room 27 = .ok (.ireturn, 1) := by decide +kernel
theorem dX11_most_0 : decode cX11_most 0 = .ok (.aload_n 0, 1) := by decide +kernel
theorem dX11_most_1 : decode cX11_most 1 = .ok (.iload_n 1, 1) := by decide +kernel
theorem dX11_most_2 : decode cX11_most 2 = .ok (.invokevirtual 248, 3) := by decide +kernel
theorem dX11_most_5 : decode cX11_most 5 = .ok (.istore_n 2, 1) := by decide +kernel
theorem dX11_most_6 : decode cX11_most 6 = .ok (.iload_n 2, 1) := by decide +kernel
theorem dX11_most_7 : decode cX11_most 7 = .ok (.ifCond .eq 7, 3) := by decide +kernel
theorem dX11_most_10 : decode cX11_most 10 = .ok (.iload_n 2, 1) := by decide +kernel
theorem dX11_most_11 : decode cX11_most 11 = .ok (.goto 24, 3) := by decide +kernel
theorem dX11_most_35 : decode cX11_most 35 = .ok (.ireturn, 1) := by decide +kernel
theorem dX4_isThere_0 : decode cX4_isThere 0 = .ok (.aload_n 0, 1) := by decide +kernel
theorem dX4_isThere_1 : decode cX4_isThere 1 = .ok (.getfield 18, 3) := by decide +kernel
theorem dX4_isThere_4 : decode cX4_isThere 4 = .ok (.ifCond .le 7, 3) := by decide +kernel
theorem dX4_isThere_11 : decode cX4_isThere 11 = .ok (.iconst 0, 1) := by decide +kernel
theorem dX4_isThere_12 : decode cX4_isThere 12 = .ok (.ireturn, 1) := by decide +kernel
theorem dX11_knit_0 : decode cX11_knit 0 = .ok (.iload_n 1, 1) := by decide +kernel
theorem dX11_knit_1 : decode cX11_knit 1 = .ok (.invokestatic 181, 3) := by decide +kernel
theorem dX11_knit_4 : decode cX11_knit 4 = .ok (.ifCond .eq 10, 3) := by decide +kernel
theorem dX11_knit_14 : decode cX11_knit 14 = .ok (.bipush (-2), 2) := by decide +kernel
theorem dX11_knit_16 : decode cX11_knit 16 = .ok (.ireturn, 1) := by decide +kernel
theorem dX11_knit_7 : decode cX11_knit 7 = .ok (.iload_n 2, 1) := by decide +kernel
theorem dX11_knit_8 : decode cX11_knit 8 = .ok (.invokestatic 184, 3) := by decide +kernel
theorem dX11_knit_11 : decode cX11_knit 11 = .ok (.ifCond .ne 6, 3) := by decide +kernel
theorem dX11_knit_17 : decode cX11_knit 17 = .ok (.aload_n 0, 1) := by decide +kernel
theorem dX11_knit_18 : decode cX11_knit 18 = .ok (.getfield 19, 3) := by decide +kernel
theorem dX11_knit_21 : decode cX11_knit 21 = .ok (.getfield 116, 3) := by decide +kernel
theorem dX11_knit_24 : decode cX11_knit 24 = .ok (.invokevirtual 187, 3) := by decide +kernel
theorem dX11_knit_27 : decode cX11_knit 27 = .ok (.ifCond .ne 6, 3) := by decide +kernel
theorem dX11_knit_30 : decode cX11_knit 30 = .ok (.bipush (-6), 2) := by decide +kernel
theorem dX11_knit_32 : decode cX11_knit 32 = .ok (.ireturn, 1) := by decide +kernel
theorem dX11_counts_0 : decode cX11_counts 0 = .ok (.iload_n 1, 1) := by decide +kernel
theorem dX11_counts_1 : decode cX11_counts 1 = .ok (.invokestatic 181, 3) := by decide +kernel
theorem dX11_counts_4 : decode cX11_counts 4 = .ok (.ifCond .eq 13, 3) := by decide +kernel
theorem dX11_counts_17 : decode cX11_counts 17 = .ok (.bipush (-2), 2) := by decide +kernel
theorem dX11_counts_19 : decode cX11_counts 19 = .ok (.ireturn, 1) := by decide +kernel
theorem dX11_counts_7 : decode cX11_counts 7 = .ok (.iload_n 2, 1) := by decide +kernel
theorem dX11_counts_8 : decode cX11_counts 8 = .ok (.ifCond .lt 9, 3) := by decide +kernel
theorem dX11_counts_11 : decode cX11_counts 11 = .ok (.iload_n 2, 1) := by decide +kernel
theorem dX11_counts_12 : decode cX11_counts 12 = .ok (.bipush 8, 2) := by decide +kernel
theorem dX11_counts_14 : decode cX11_counts 14 = .ok (.if_icmp .lt 6, 3) := by decide +kernel
theorem dX11_counts_20 : decode cX11_counts 20 = .ok (.aload_n 0, 1) := by decide +kernel
theorem dX11_counts_21 : decode cX11_counts 21 = .ok (.iload_n 1, 1) := by decide +kernel
theorem dX11_counts_22 : decode cX11_counts 22 = .ok (.invokevirtual 239, 3) := by decide +kernel
theorem dX11_counts_25 : decode cX11_counts 25 = .ok (.ifCond .ne 6, 3) := by decide +kernel
theorem dX11_counts_28 : decode cX11_counts 28 = .ok (.bipush (-6), 2) := by decide +kernel
theorem dX11_counts_30 : decode cX11_counts 30 = .ok (.ireturn, 1) := by decide +kernel
theorem dX11_odds_0 : decode cX11_odds 0 = .ok (.iload_n 1, 1) := by decide +kernel
theorem dX11_odds_1 : decode cX11_odds 1 = .ok (.invokestatic 184, 3) := by decide +kernel
theorem dX11_odds_4 : decode cX11_odds 4 = .ok (.ifCond .eq 10, 3) := by decide +kernel
theorem dX11_odds_14 : decode cX11_odds 14 = .ok (.bipush (-2), 2) := by decide +kernel
theorem dX11_odds_16 : decode cX11_odds 16 = .ok (.ireturn, 1) := by decide +kernel
theorem dX11_odds_7 : decode cX11_odds 7 = .ok (.iload_n 2, 1) := by decide +kernel
theorem dX11_odds_8 : decode cX11_odds 8 = .ok (.invokestatic 276, 3) := by decide +kernel
theorem dX11_odds_11 : decode cX11_odds 11 = .ok (.ifCond .ne 6, 3) := by decide +kernel
theorem dX11_odds_17 : decode cX11_odds 17 = .ok (.aload_n 0, 1) := by decide +kernel
theorem dX11_odds_18 : decode cX11_odds 18 = .ok (.getfield 19, 3) := by decide +kernel
theorem dX11_odds_21 : decode cX11_odds 21 = .ok (.getfield 116, 3) := by decide +kernel
theorem dX11_odds_24 : decode cX11_odds 24 = .ok (.invokevirtual 187, 3) := by decide +kernel
theorem dX11_odds_27 : decode cX11_odds 27 = .ok (.ifCond .ne 6, 3) := by decide +kernel
theorem dX11_odds_30 : decode cX11_odds 30 = .ok (.bipush (-6), 2) := by decide +kernel
theorem dX11_odds_32 : decode cX11_odds 32 = .ok (.ireturn, 1) := by decide +kernel
theorem dX11_carries_0 : decode cX11_carries 0 = .ok (.iload_n 1, 1) := by decide +kernel
theorem dX11_carries_1 : decode cX11_carries 1 = .ok (.invokestatic 142, 3) := by decide +kernel
theorem dX11_carries_4 : decode cX11_carries 4 = .ok (.ifCond .eq 17, 3) := by decide +kernel
theorem dX11_carries_21 : decode cX11_carries 21 = .ok (.bipush (-2), 2) := by decide +kernel
theorem dX11_carries_23 : decode cX11_carries 23 = .ok (.ireturn, 1) := by decide +kernel
theorem dX11_carries_7 : decode cX11_carries 7 = .ok (.iload_n 2, 1) := by decide +kernel
theorem dX11_carries_8 : decode cX11_carries 8 = .ok (.invokestatic 184, 3) := by decide +kernel
theorem dX11_carries_11 : decode cX11_carries 11 = .ok (.ifCond .eq 10, 3) := by decide +kernel
theorem dX11_carries_14 : decode cX11_carries 14 = .ok (.iload_n 3, 1) := by decide +kernel
theorem dX11_carries_15 : decode cX11_carries 15 = .ok (.invokestatic 276, 3) := by decide +kernel
theorem dX11_carries_18 : decode cX11_carries 18 = .ok (.ifCond .ne 6, 3) := by decide +kernel
theorem dX11_carries_24 : decode cX11_carries 24 = .ok (.aload_n 0, 1) := by decide +kernel
theorem dX11_carries_25 : decode cX11_carries 25 = .ok (.getfield 19, 3) := by decide +kernel
theorem dX11_carries_28 : decode cX11_carries 28 = .ok (.getfield 116, 3) := by decide +kernel
theorem dX11_carries_31 : decode cX11_carries 31 = .ok (.invokevirtual 187, 3) := by decide +kernel
theorem dX11_carries_34 : decode cX11_carries 34 = .ok (.ifCond .eq 18, 3) := by decide +kernel
theorem dX11_carries_52 : decode cX11_carries 52 = .ok (.bipush (-6), 2) := by decide +kernel
theorem dX11_carries_54 : decode cX11_carries 54 = .ok (.ireturn, 1) := by decide +kernel
theorem dX11_same_0 : decode cX11_same 0 = .ok (.iload_n 1, 1) := by decide +kernel
theorem dX11_same_1 : decode cX11_same 1 = .ok (.invokestatic 181, 3) := by decide +kernel
theorem dX11_same_4 : decode cX11_same 4 = .ok (.ifCond .eq 17, 3) := by decide +kernel
theorem dX11_same_21 : decode cX11_same 21 = .ok (.bipush (-2), 2) := by decide +kernel
theorem dX11_same_23 : decode cX11_same 23 = .ok (.ireturn, 1) := by decide +kernel
theorem dX11_same_7 : decode cX11_same 7 = .ok (.iload_n 2, 1) := by decide +kernel
theorem dX11_same_8 : decode cX11_same 8 = .ok (.invokestatic 181, 3) := by decide +kernel
theorem dX11_same_11 : decode cX11_same 11 = .ok (.ifCond .eq 10, 3) := by decide +kernel
theorem dX11_same_14 : decode cX11_same 14 = .ok (.iload_n 3, 1) := by decide +kernel
theorem dX11_same_15 : decode cX11_same 15 = .ok (.invokestatic 142, 3) := by decide +kernel
theorem dX11_same_18 : decode cX11_same 18 = .ok (.ifCond .ne 6, 3) := by decide +kernel
theorem dX11_same_24 : decode cX11_same 24 = .ok (.aload_n 0, 1) := by decide +kernel
theorem dX11_same_25 : decode cX11_same 25 = .ok (.iload_n 1, 1) := by decide +kernel
theorem dX11_same_26 : decode cX11_same 26 = .ok (.invokevirtual 239, 3) := by decide +kernel
theorem dX11_same_29 : decode cX11_same 29 = .ok (.ifCond .eq 26, 3) := by decide +kernel
theorem dX11_same_55 : decode cX11_same 55 = .ok (.bipush (-6), 2) := by decide +kernel
theorem dX11_same_57 : decode cX11_same 57 = .ok (.ireturn, 1) := by decide +kernel
theorem dX11_back_0 : decode cX11_back 0 = .ok (.iload_n 1, 1) := by decide +kernel
theorem dX11_back_1 : decode cX11_back 1 = .ok (.ifCond .lt 8, 3) := by decide +kernel
theorem dX11_back_9 : decode cX11_back 9 = .ok (.bipush (-2), 2) := by decide +kernel
theorem dX11_back_11 : decode cX11_back 11 = .ok (.ireturn, 1) := by decide +kernel
theorem dX11_back_4 : decode cX11_back 4 = .ok (.iload_n 1, 1) := by decide +kernel
theorem dX11_back_5 : decode cX11_back 5 = .ok (.iconst 3, 1) := by decide +kernel
theorem dX11_back_6 : decode cX11_back 6 = .ok (.if_icmp .lt 6, 3) := by decide +kernel
theorem dX11_back_12 : decode cX11_back 12 = .ok (.aload_n 0, 1) := by decide +kernel
theorem dX11_back_13 : decode cX11_back 13 = .ok (.getfield 23, 3) := by decide +kernel
theorem dX11_back_16 : decode cX11_back 16 = .ok (.iload_n 1, 1) := by decide +kernel
theorem dX11_back_17 : decode cX11_back 17 = .ok (.aaload, 1) := by decide +kernel
theorem dX11_back_18 : decode cX11_back 18 = .ok (.ifnonnull 6, 3) := by decide +kernel
theorem dX11_back_21 : decode cX11_back 21 = .ok (.bipush (-6), 2) := by decide +kernel
theorem dX11_back_23 : decode cX11_back 23 = .ok (.ireturn, 1) := by decide +kernel
theorem dX5_isThere_0 : decode cX5_isThere 0 = .ok (.aload_n 0, 1) := by decide +kernel
theorem dX5_isThere_1 : decode cX5_isThere 1 = .ok (.getfield 15, 3) := by decide +kernel
theorem dX5_isThere_4 : decode cX5_isThere 4 = .ok (.iconst (-1), 1) := by decide +kernel
theorem dX5_isThere_5 : decode cX5_isThere 5 = .ok (.if_icmp .eq 7, 3) := by decide +kernel
theorem dX5_isThere_12 : decode cX5_isThere 12 = .ok (.iconst 0, 1) := by decide +kernel
theorem dX5_isThere_13 : decode cX5_isThere 13 = .ok (.ireturn, 1) := by decide +kernel
theorem dX11_write_0 : decode cX11_write 0 = .ok (.iload_n 1, 1) := by decide +kernel
theorem dX11_write_1 : decode cX11_write 1 = .ok (.invokestatic 353, 3) := by decide +kernel
theorem dX11_write_4 : decode cX11_write 4 = .ok (.ifCond .ne 6, 3) := by decide +kernel
theorem dX11_write_10 : decode cX11_write 10 = .ok (.aload_n 0, 1) := by decide +kernel
theorem dX11_write_11 : decode cX11_write 11 = .ok (.getfield 36, 3) := by decide +kernel
theorem dX11_write_14 : decode cX11_write 14 = .ok (.iload_n 1, 1) := by decide +kernel
theorem dX11_write_15 : decode cX11_write 15 = .ok (.aaload, 1) := by decide +kernel
theorem dX11_write_16 : decode cX11_write 16 = .ok (.invokevirtual 359, 3) := by decide +kernel
theorem dX11_write_19 : decode cX11_write 19 = .ok (.ifCond .ne 6, 3) := by decide +kernel
theorem dX11_write_22 : decode cX11_write 22 = .ok (.bipush (-6), 2) := by decide +kernel
theorem dX11_write_24 : decode cX11_write 24 = .ok (.ireturn, 1) := by decide +kernel
theorem dX11_write_7 : decode cX11_write 7 = .ok (.bipush (-2), 2) := by decide +kernel
theorem dX11_write_9 : decode cX11_write 9 = .ok (.ireturn, 1) := by decide +kernel
theorem dX11_paste_0 : decode cX11_paste 0 = .ok (.iload_n 1, 1) := by decide +kernel
theorem dX11_paste_1 : decode cX11_paste 1 = .ok (.invokestatic 353, 3) := by decide +kernel
theorem dX11_paste_4 : decode cX11_paste 4 = .ok (.ifCond .eq 10, 3) := by decide +kernel
theorem dX11_paste_14 : decode cX11_paste 14 = .ok (.bipush (-2), 2) := by decide +kernel
theorem dX11_paste_16 : decode cX11_paste 16 = .ok (.ireturn, 1) := by decide +kernel
theorem dX11_paste_7 : decode cX11_paste 7 = .ok (.iload_n 3, 1) := by decide +kernel
theorem dX11_paste_8 : decode cX11_paste 8 = .ok (.invokestatic 353, 3) := by decide +kernel
theorem dX11_paste_11 : decode cX11_paste 11 = .ok (.ifCond .ne 6, 3) := by decide +kernel
theorem dX11_paste_17 : decode cX11_paste 17 = .ok (.aload_n 0, 1) := by decide +kernel
theorem dX11_paste_18 : decode cX11_paste 18 = .ok (.getfield 36, 3) := by decide +kernel
theorem dX11_paste_21 : decode cX11_paste 21 = .ok (.iload_n 1, 1) := by decide +kernel
theorem dX11_paste_22 : decode cX11_paste 22 = .ok (.aaload, 1) := by decide +kernel
theorem dX11_paste_23 : decode cX11_paste 23 = .ok (.invokevirtual 359, 3) := by decide +kernel
theorem dX11_paste_26 : decode cX11_paste 26 = .ok (.ifCond .eq 15, 3) := by decide +kernel
theorem dX11_paste_41 : decode cX11_paste 41 = .ok (.bipush (-6), 2) := by decide +kernel
theorem dX11_paste_43 : decode cX11_paste 43 = .ok (.ireturn, 1) := by decide +kernel
theorem dX11_lay_0 : decode cX11_lay 0 = .ok (.iload_n 1, 1) := by decide +kernel
theorem dX11_lay_1 : decode cX11_lay 1 = .ok (.invokestatic 353, 3) := by decide +kernel
theorem dX11_lay_4 : decode cX11_lay 4 = .ok (.ifCond .eq 10, 3) := by decide +kernel
theorem dX11_lay_14 : decode cX11_lay 14 = .ok (.bipush (-2), 2) := by decide +kernel
theorem dX11_lay_16 : decode cX11_lay 16 = .ok (.ireturn, 1) := by decide +kernel
theorem dX11_lay_7 : decode cX11_lay 7 = .ok (.iload_n 2, 1) := by decide +kernel
theorem dX11_lay_8 : decode cX11_lay 8 = .ok (.invokestatic 181, 3) := by decide +kernel
theorem dX11_lay_11 : decode cX11_lay 11 = .ok (.ifCond .ne 6, 3) := by decide +kernel
theorem dX11_lay_17 : decode cX11_lay 17 = .ok (.aload_n 0, 1) := by decide +kernel
theorem dX11_lay_18 : decode cX11_lay 18 = .ok (.getfield 36, 3) := by decide +kernel
theorem dX11_lay_21 : decode cX11_lay 21 = .ok (.iload_n 1, 1) := by decide +kernel
theorem dX11_lay_22 : decode cX11_lay 22 = .ok (.aaload, 1) := by decide +kernel
theorem dX11_lay_23 : decode cX11_lay 23 = .ok (.invokevirtual 359, 3) := by decide +kernel
theorem dX11_lay_26 : decode cX11_lay 26 = .ok (.ifCond .eq 11, 3) := by decide +kernel
theorem dX11_lay_37 : decode cX11_lay 37 = .ok (.bipush (-6), 2) := by decide +kernel
theorem dX11_lay_39 : decode cX11_lay 39 = .ok (.ireturn, 1) := by decide +kernel
theorem dX2_fiveAt_0 : decode cX2_fiveAt 0 = .ok (.iload_n 1, 1) := by decide +kernel
theorem dX2_fiveAt_1 : decode cX2_fiveAt 1 = .ok (.ifCond .lt 26, 3) := by decide +kernel
theorem dX2_fiveAt_27 : decode cX2_fiveAt 27 = .ok (.iconst (-1), 1) := by decide +kernel
theorem dX2_fiveAt_28 : decode cX2_fiveAt 28 = .ok (.ireturn, 1) := by decide +kernel
theorem dX2_fiveAt_4 : decode cX2_fiveAt 4 = .ok (.iload_n 1, 1) := by decide +kernel
theorem dX2_fiveAt_5 : decode cX2_fiveAt 5 = .ok (.aload_n 0, 1) := by decide +kernel
theorem dX2_fiveAt_6 : decode cX2_fiveAt 6 = .ok (.getfield 21, 3) := by decide +kernel
theorem dX2_fiveAt_9 : decode cX2_fiveAt 9 = .ok (.if_icmp .ge 18, 3) := by decide +kernel
theorem dX2_byteOf_0 : decode cX2_byteOf 0 = .ok (.aload_n 0, 1) := by decide +kernel
theorem dX2_byteOf_1 : decode cX2_byteOf 1 = .ok (.iload_n 1, 1) := by decide +kernel
theorem dX2_byteOf_2 : decode cX2_byteOf 2 = .ok (.invokevirtual 36, 3) := by decide +kernel
theorem dX2_byteOf_5 : decode cX2_byteOf 5 = .ok (.istore_n 2, 1) := by decide +kernel
theorem dX2_byteOf_6 : decode cX2_byteOf 6 = .ok (.iload_n 2, 1) := by decide +kernel
theorem dX2_byteOf_7 : decode cX2_byteOf 7 = .ok (.iconst (-1), 1) := by decide +kernel
theorem dX2_byteOf_8 : decode cX2_byteOf 8 = .ok (.if_icmp .ne 5, 3) := by decide +kernel
theorem dX2_byteOf_11 : decode cX2_byteOf 11 = .ok (.iconst (-1), 1) := by decide +kernel
theorem dX2_byteOf_12 : decode cX2_byteOf 12 = .ok (.ireturn, 1) := by decide +kernel
theorem dX11_letter_0 : decode cX11_letter 0 = .ok (.aload_n 0, 1) := by decide +kernel
theorem dX11_letter_1 : decode cX11_letter 1 = .ok (.getfield 30, 3) := by decide +kernel
theorem dX11_letter_4 : decode cX11_letter 4 = .ok (.iload_n 1, 1) := by decide +kernel
theorem dX11_letter_5 : decode cX11_letter 5 = .ok (.invokevirtual 214, 3) := by decide +kernel
theorem dX11_letter_8 : decode cX11_letter 8 = .ok (.ireturn, 1) := by decide +kernel
theorem dX4_placeOf_0 : decode cX4_placeOf 0 = .ok (.iload_n 1, 1) := by decide +kernel
theorem dX4_placeOf_1 : decode cX4_placeOf 1 = .ok (.ifCond .lt 23, 3) := by decide +kernel
theorem dX4_placeOf_24 : decode cX4_placeOf 24 = .ok (.iconst (-1), 1) := by decide +kernel
theorem dX4_placeOf_25 : decode cX4_placeOf 25 = .ok (.ireturn, 1) := by decide +kernel
theorem dX4_placeOf_4 : decode cX4_placeOf 4 = .ok (.iload_n 1, 1) := by decide +kernel
theorem dX4_placeOf_5 : decode cX4_placeOf 5 = .ok (.aload_n 0, 1) := by decide +kernel
theorem dX4_placeOf_6 : decode cX4_placeOf 6 = .ok (.getfield 18, 3) := by decide +kernel
theorem dX4_placeOf_9 : decode cX4_placeOf 9 = .ok (.if_icmp .ge 15, 3) := by decide +kernel
theorem dX4_sortAt_0 : decode cX4_sortAt 0 = .ok (.iload_n 1, 1) := by decide +kernel
theorem dX4_sortAt_1 : decode cX4_sortAt 1 = .ok (.ifCond .lt 32, 3) := by decide +kernel
theorem dX4_sortAt_33 : decode cX4_sortAt 33 = .ok (.iconst (-1), 1) := by decide +kernel
theorem dX4_sortAt_34 : decode cX4_sortAt 34 = .ok (.ireturn, 1) := by decide +kernel
theorem dX11_sort_0 : decode cX11_sort 0 = .ok (.aload_n 0, 1) := by decide +kernel
theorem dX11_sort_1 : decode cX11_sort 1 = .ok (.getfield 19, 3) := by decide +kernel
theorem dX11_sort_4 : decode cX11_sort 4 = .ok (.getfield 116, 3) := by decide +kernel
theorem dX11_sort_7 : decode cX11_sort 7 = .ok (.aload_n 0, 1) := by decide +kernel
theorem dX11_sort_8 : decode cX11_sort 8 = .ok (.getfield 19, 3) := by decide +kernel
theorem dX11_sort_11 : decode cX11_sort 11 = .ok (.getfield 116, 3) := by decide +kernel
theorem dX11_sort_14 : decode cX11_sort 14 = .ok (.iload_n 1, 1) := by decide +kernel
theorem dX11_sort_15 : decode cX11_sort 15 = .ok (.iload_n 2, 1) := by decide +kernel
theorem dX11_sort_16 : decode cX11_sort 16 = .ok (.invokevirtual 236, 3) := by decide +kernel
theorem dX11_sort_19 : decode cX11_sort 19 = .ok (.invokevirtual 245, 3) := by decide +kernel
theorem dX11_sort_22 : decode cX11_sort 22 = .ok (.ireturn, 1) := by decide +kernel
theorem dX11_at_0 : decode cX11_at 0 = .ok (.aload_n 0, 1) := by decide +kernel
theorem dX11_at_1 : decode cX11_at 1 = .ok (.getfield 19, 3) := by decide +kernel
theorem dX11_at_4 : decode cX11_at 4 = .ok (.getfield 116, 3) := by decide +kernel
theorem dX11_at_7 : decode cX11_at 7 = .ok (.iload_n 2, 1) := by decide +kernel
theorem dX11_at_8 : decode cX11_at 8 = .ok (.iload_n 3, 1) := by decide +kernel
theorem dX11_at_9 : decode cX11_at 9 = .ok (.invokevirtual 236, 3) := by decide +kernel
theorem dX11_at_12 : decode cX11_at 12 = .ok (.istore 4, 2) := by decide +kernel
theorem dX11_at_14 : decode cX11_at 14 = .ok (.aload_n 0, 1) := by decide +kernel
theorem dX11_at_15 : decode cX11_at 15 = .ok (.iload_n 1, 1) := by decide +kernel
theorem dX11_at_16 : decode cX11_at 16 = .ok (.invokevirtual 239, 3) := by decide +kernel
theorem dX11_at_19 : decode cX11_at 19 = .ok (.ifCond .eq 9, 3) := by decide +kernel
theorem dX11_at_28 : decode cX11_at 28 = .ok (.iconst (-1), 1) := by decide +kernel
theorem dX11_at_29 : decode cX11_at 29 = .ok (.ireturn, 1) := by decide +kernel
theorem dX11_turn_0 : decode cX11_turn 0 = .ok (.aload_n 0, 1) := by decide +kernel
theorem dX11_turn_1 : decode cX11_turn 1 = .ok (.getfield 19, 3) := by decide +kernel
theorem dX11_turn_4 : decode cX11_turn 4 = .ok (.getfield 116, 3) := by decide +kernel
theorem dX11_turn_7 : decode cX11_turn 7 = .ok (.iload_n 2, 1) := by decide +kernel
theorem dX11_turn_8 : decode cX11_turn 8 = .ok (.iload_n 3, 1) := by decide +kernel
theorem dX11_turn_9 : decode cX11_turn 9 = .ok (.invokevirtual 236, 3) := by decide +kernel
theorem dX11_turn_12 : decode cX11_turn 12 = .ok (.istore 4, 2) := by decide +kernel
theorem dX11_turn_14 : decode cX11_turn 14 = .ok (.iload_n 1, 1) := by decide +kernel
theorem dX11_turn_15 : decode cX11_turn 15 = .ok (.invokestatic 181, 3) := by decide +kernel
theorem dX11_turn_18 : decode cX11_turn 18 = .ok (.ifCond .eq 19, 3) := by decide +kernel
theorem dX11_turn_37 : decode cX11_turn 37 = .ok (.bipush (-2), 2) := by decide +kernel
theorem dX11_turn_39 : decode cX11_turn 39 = .ok (.ireturn, 1) := by decide +kernel
theorem dX11_turn_21 : decode cX11_turn 21 = .ok (.aload_n 0, 1) := by decide +kernel
theorem dX11_turn_22 : decode cX11_turn 22 = .ok (.getfield 19, 3) := by decide +kernel
theorem dX11_turn_25 : decode cX11_turn 25 = .ok (.getfield 116, 3) := by decide +kernel
theorem dX11_turn_28 : decode cX11_turn 28 = .ok (.iload 4, 2) := by decide +kernel
theorem dX11_turn_30 : decode cX11_turn 30 = .ok (.invokevirtual 245, 3) := by decide +kernel
theorem dX11_turn_33 : decode cX11_turn 33 = .ok (.iconst 2, 1) := by decide +kernel
theorem dX11_turn_34 : decode cX11_turn 34 = .ok (.if_icmp .ge 6, 3) := by decide +kernel
theorem dX11_fault_0 : decode cX11_fault 0 = .ok (.iload_n 1, 1) := by decide +kernel
theorem dX11_fault_1 : decode cX11_fault 1 = .ok (.lookupswitch 43 #[(0, 27), (1, 35)], 27) := by decide +kernel
theorem dX11_fault_28 : decode cX11_fault 28 = .ok (.aload_n 0, 1) := by decide +kernel
theorem dX11_fault_29 : decode cX11_fault 29 = .ok (.getfield 12, 3) := by decide +kernel
theorem dX11_fault_32 : decode cX11_fault 32 = .ok (.getfield 175, 3) := by decide +kernel
theorem dX11_fault_35 : decode cX11_fault 35 = .ok (.ireturn, 1) := by decide +kernel
theorem dX11_fault_36 : decode cX11_fault 36 = .ok (.aload_n 0, 1) := by decide +kernel
theorem dX11_fault_37 : decode cX11_fault 37 = .ok (.getfield 12, 3) := by decide +kernel
theorem dX11_fault_40 : decode cX11_fault 40 = .ok (.getfield 178, 3) := by decide +kernel
theorem dX11_fault_43 : decode cX11_fault 43 = .ok (.ireturn, 1) := by decide +kernel
theorem dX11_fault_44 : decode cX11_fault 44 = .ok (.iconst (-1), 1) := by decide +kernel
theorem dX11_fault_45 : decode cX11_fault 45 = .ok (.ireturn, 1) := by decide +kernel
theorem dX11_end_0 : decode cX11_end 0 = .ok (.iload_n 1, 1) := by decide +kernel
theorem dX11_end_1 : decode cX11_end 1 = .ok (.ifCond .lt 14, 3) := by decide +kernel
theorem dX11_end_15 : decode cX11_end 15 = .ok (.iconst (-1), 1) := by decide +kernel
theorem dX11_end_16 : decode cX11_end 16 = .ok (.ireturn, 1) := by decide +kernel
theorem dX11_end_4 : decode cX11_end 4 = .ok (.iload_n 1, 1) := by decide +kernel
theorem dX11_end_5 : decode cX11_end 5 = .ok (.aload_n 0, 1) := by decide +kernel
theorem dX11_end_6 : decode cX11_end 6 = .ok (.getfield 12, 3) := by decide +kernel
theorem dX11_end_9 : decode cX11_end 9 = .ok (.getfield 105, 3) := by decide +kernel
theorem dX11_end_12 : decode cX11_end 12 = .ok (.if_icmp .le 5, 3) := by decide +kernel
theorem dX11_end_17 : decode cX11_end 17 = .ok (.aload_n 0, 1) := by decide +kernel
theorem dX11_end_18 : decode cX11_end 18 = .ok (.getfield 12, 3) := by decide +kernel
theorem dX11_end_21 : decode cX11_end 21 = .ok (.iload_n 1, 1) := by decide +kernel
theorem dX11_end_22 : decode cX11_end 22 = .ok (.putfield 105, 3) := by decide +kernel
theorem dX11_end_25 : decode cX11_end 25 = .ok (.iload_n 1, 1) := by decide +kernel
theorem dX11_end_26 : decode cX11_end 26 = .ok (.ireturn, 1) := by decide +kernel
theorem dX7_hasRoomFor_0 : decode cX7_hasRoomFor 0 = .ok (.aload_n 0, 1) := by decide +kernel
theorem dX7_hasRoomFor_1 : decode cX7_hasRoomFor 1 = .ok (.getfield 19, 3) := by decide +kernel
theorem dX7_hasRoomFor_4 : decode cX7_hasRoomFor 4 = .ok (.iload_n 1, 1) := by decide +kernel
theorem dX7_hasRoomFor_5 : decode cX7_hasRoomFor 5 = .ok (.iadd, 1) := by decide +kernel
theorem dX7_hasRoomFor_6 : decode cX7_hasRoomFor 6 = .ok (.sipush 600, 3) := by decide +kernel
theorem dX7_hasRoomFor_9 : decode cX7_hasRoomFor 9 = .ok (.if_icmp .gt 7, 3) := by decide +kernel
theorem dX7_hasRoomFor_12 : decode cX7_hasRoomFor 12 = .ok (.iconst 1, 1) := by decide +kernel
theorem dX7_hasRoomFor_13 : decode cX7_hasRoomFor 13 = .ok (.goto 4, 3) := by decide +kernel
theorem dX7_hasRoomFor_17 : decode cX7_hasRoomFor 17 = .ok (.ireturn, 1) := by decide +kernel
theorem dX7_addBytesOf_0 : decode cX7_addBytesOf 0 = .ok (.bipush 24, 2) := by decide +kernel
theorem dX7_addBytesOf_2 : decode cX7_addBytesOf 2 = .ok (.istore_n 2, 1) := by decide +kernel
theorem dX7_addBytesOf_3 : decode cX7_addBytesOf 3 = .ok (.iload_n 2, 1) := by decide +kernel
theorem dX7_addBytesOf_4 : decode cX7_addBytesOf 4 = .ok (.ifCond .lt 47, 3) := by decide +kernel
theorem dX7_addBytesOf_7 : decode cX7_addBytesOf 7 = .ok (.aload_n 0, 1) := by decide +kernel
theorem dX7_addBytesOf_8 : decode cX7_addBytesOf 8 = .ok (.getfield 19, 3) := by decide +kernel
theorem dX7_addBytesOf_11 : decode cX7_addBytesOf 11 = .ok (.aload_n 0, 1) := by decide +kernel
theorem dX7_addBytesOf_12 : decode cX7_addBytesOf 12 = .ok (.getfield 9, 3) := by decide +kernel
theorem dX7_addBytesOf_15 : decode cX7_addBytesOf 15 = .ok (.arraylength, 1) := by decide +kernel
theorem dX7_addBytesOf_16 : decode cX7_addBytesOf 16 = .ok (.if_icmp .ge 29, 3) := by decide +kernel
theorem dX7_addBytesOf_19 : decode cX7_addBytesOf 19 = .ok (.aload_n 0, 1) := by decide +kernel
theorem dX7_addBytesOf_20 : decode cX7_addBytesOf 20 = .ok (.getfield 9, 3) := by decide +kernel
theorem dX7_addBytesOf_23 : decode cX7_addBytesOf 23 = .ok (.aload_n 0, 1) := by decide +kernel
theorem dX7_addBytesOf_24 : decode cX7_addBytesOf 24 = .ok (.getfield 19, 3) := by decide +kernel
theorem dX7_addBytesOf_27 : decode cX7_addBytesOf 27 = .ok (.iload_n 1, 1) := by decide +kernel
theorem dX7_addBytesOf_28 : decode cX7_addBytesOf 28 = .ok (.iload_n 2, 1) := by decide +kernel
theorem dX7_addBytesOf_29 : decode cX7_addBytesOf 29 = .ok (.iushr, 1) := by decide +kernel
theorem dX7_addBytesOf_30 : decode cX7_addBytesOf 30 = .ok (.sipush 255, 3) := by decide +kernel
theorem dX7_addBytesOf_33 : decode cX7_addBytesOf 33 = .ok (.iand, 1) := by decide +kernel
theorem dX7_addBytesOf_34 : decode cX7_addBytesOf 34 = .ok (.iastore, 1) := by decide +kernel
theorem dX7_addBytesOf_35 : decode cX7_addBytesOf 35 = .ok (.aload_n 0, 1) := by decide +kernel
theorem dX7_addBytesOf_36 : decode cX7_addBytesOf 36 = .ok (.dup, 1) := by decide +kernel
theorem dX7_addBytesOf_37 : decode cX7_addBytesOf 37 = .ok (.getfield 19, 3) := by decide +kernel
theorem dX7_addBytesOf_40 : decode cX7_addBytesOf 40 = .ok (.iconst 1, 1) := by decide +kernel
theorem dX7_addBytesOf_41 : decode cX7_addBytesOf 41 = .ok (.iadd, 1) := by decide +kernel
theorem dX7_addBytesOf_42 : decode cX7_addBytesOf 42 = .ok (.putfield 19, 3) := by decide +kernel
theorem dX7_addBytesOf_45 : decode cX7_addBytesOf 45 = .ok (.iinc 2 (-8), 3) := by decide +kernel
theorem dX7_addBytesOf_48 : decode cX7_addBytesOf 48 = .ok (.goto (-45), 3) := by decide +kernel
theorem dX7_addBytesOf_51 : decode cX7_addBytesOf 51 = .ok (.return_, 1) := by decide +kernel
theorem dX11_feed_0 : decode cX11_feed 0 = .ok (.aload_n 0, 1) := by decide +kernel
theorem dX11_feed_1 : decode cX11_feed 1 = .ok (.getfield 12, 3) := by decide +kernel
theorem dX11_feed_4 : decode cX11_feed 4 = .ok (.bipush 20, 2) := by decide +kernel
theorem dX11_feed_6 : decode cX11_feed 6 = .ok (.invokevirtual 97, 3) := by decide +kernel
theorem dX11_feed_9 : decode cX11_feed 9 = .ok (.ifCond .ne 5, 3) := by decide +kernel
theorem dX11_feed_14 : decode cX11_feed 14 = .ok (.aload_n 0, 1) := by decide +kernel
theorem dX11_feed_15 : decode cX11_feed 15 = .ok (.getfield 12, 3) := by decide +kernel
theorem dX11_feed_18 : decode cX11_feed 18 = .ok (.iload_n 1, 1) := by decide +kernel
theorem dX11_feed_19 : decode cX11_feed 19 = .ok (.invokevirtual 101, 3) := by decide +kernel
theorem dX11_feed_22 : decode cX11_feed 22 = .ok (.aload_n 0, 1) := by decide +kernel
theorem dX11_feed_23 : decode cX11_feed 23 = .ok (.getfield 12, 3) := by decide +kernel
theorem dX11_feed_26 : decode cX11_feed 26 = .ok (.iload_n 2, 1) := by decide +kernel
theorem dX11_feed_27 : decode cX11_feed 27 = .ok (.invokevirtual 101, 3) := by decide +kernel
theorem dX11_feed_30 : decode cX11_feed 30 = .ok (.aload_n 0, 1) := by decide +kernel
theorem dX11_feed_31 : decode cX11_feed 31 = .ok (.getfield 12, 3) := by decide +kernel
theorem dX11_feed_34 : decode cX11_feed 34 = .ok (.iload_n 3, 1) := by decide +kernel
theorem dX11_feed_35 : decode cX11_feed 35 = .ok (.invokevirtual 101, 3) := by decide +kernel
theorem dX11_feed_38 : decode cX11_feed 38 = .ok (.aload_n 0, 1) := by decide +kernel
theorem dX11_feed_39 : decode cX11_feed 39 = .ok (.getfield 12, 3) := by decide +kernel
theorem dX11_feed_42 : decode cX11_feed 42 = .ok (.iload 4, 2) := by decide +kernel
theorem dX11_feed_44 : decode cX11_feed 44 = .ok (.invokevirtual 101, 3) := by decide +kernel
theorem dX11_feed_47 : decode cX11_feed 47 = .ok (.aload_n 0, 1) := by decide +kernel
theorem dX11_feed_48 : decode cX11_feed 48 = .ok (.getfield 12, 3) := by decide +kernel
theorem dX11_feed_51 : decode cX11_feed 51 = .ok (.iload 5, 2) := by decide +kernel
theorem dX11_feed_53 : decode cX11_feed 53 = .ok (.invokevirtual 101, 3) := by decide +kernel
theorem dX11_feed_56 : decode cX11_feed 56 = .ok (.aload_n 0, 1) := by decide +kernel
theorem dX11_feed_57 : decode cX11_feed 57 = .ok (.getfield 12, 3) := by decide +kernel
theorem dX11_feed_60 : decode cX11_feed 60 = .ok (.getfield 105, 3) := by decide +kernel
theorem dX11_feed_63 : decode cX11_feed 63 = .ok (.ireturn, 1) := by decide +kernel
theorem dX7_isFine_0 : decode cX7_isFine 0 = .ok (.aload_n 0, 1) := by decide +kernel
theorem dX7_isFine_1 : decode cX7_isFine 1 = .ok (.getfield 22, 3) := by decide +kernel
theorem dX7_isFine_4 : decode cX7_isFine 4 = .ok (.ifCond .ne 7, 3) := by decide +kernel
theorem dX7_isFine_7 : decode cX7_isFine 7 = .ok (.iconst 1, 1) := by decide +kernel
theorem dX7_isFine_8 : decode cX7_isFine 8 = .ok (.goto 4, 3) := by decide +kernel
theorem dX7_isFine_12 : decode cX7_isFine 12 = .ok (.ireturn, 1) := by decide +kernel
theorem dX7_byteAt_0 : decode cX7_byteAt 0 = .ok (.iload_n 1, 1) := by decide +kernel
theorem dX7_byteAt_1 : decode cX7_byteAt 1 = .ok (.ifCond .lt 29, 3) := by decide +kernel
theorem dX7_byteAt_4 : decode cX7_byteAt 4 = .ok (.iload_n 1, 1) := by decide +kernel
theorem dX7_byteAt_5 : decode cX7_byteAt 5 = .ok (.aload_n 0, 1) := by decide +kernel
theorem dX7_byteAt_6 : decode cX7_byteAt 6 = .ok (.getfield 19, 3) := by decide +kernel
theorem dX7_byteAt_9 : decode cX7_byteAt 9 = .ok (.if_icmp .ge 21, 3) := by decide +kernel
theorem dX7_byteAt_30 : decode cX7_byteAt 30 = .ok (.iconst (-1), 1) := by decide +kernel
theorem dX7_byteAt_31 : decode cX7_byteAt 31 = .ok (.ireturn, 1) := by decide +kernel
theorem dX7_kindOf_0 : decode cX7_kindOf 0 = .ok (.iload_n 0, 1) := by decide +kernel
theorem dX7_kindOf_1 : decode cX7_kindOf 1 = .ok (.bipush 97, 2) := by decide +kernel
theorem dX7_kindOf_3 : decode cX7_kindOf 3 = .ok (.if_icmp .lt 11, 3) := by decide +kernel
theorem dX7_kindOf_14 : decode cX7_kindOf 14 = .ok (.iload_n 0, 1) := by decide +kernel
theorem dX7_kindOf_15 : decode cX7_kindOf 15 = .ok (.bipush 48, 2) := by decide +kernel
theorem dX7_kindOf_17 : decode cX7_kindOf 17 = .ok (.if_icmp .lt 11, 3) := by decide +kernel
theorem dX7_kindOf_28 : decode cX7_kindOf 28 = .ok (.iload_n 0, 1) := by decide +kernel
theorem dX7_kindOf_29 : decode cX7_kindOf 29 = .ok (.bipush 59, 2) := by decide +kernel
theorem dX7_kindOf_31 : decode cX7_kindOf 31 = .ok (.if_icmp .ne 5, 3) := by decide +kernel
theorem dX7_kindOf_36 : decode cX7_kindOf 36 = .ok (.iload_n 0, 1) := by decide +kernel
theorem dX7_kindOf_37 : decode cX7_kindOf 37 = .ok (.iconst (-1), 1) := by decide +kernel
theorem dX7_kindOf_38 : decode cX7_kindOf 38 = .ok (.if_icmp .ne 7, 3) := by decide +kernel
theorem dX7_kindOf_41 : decode cX7_kindOf 41 = .ok (.iconst 0, 1) := by decide +kernel
theorem dX7_kindOf_42 : decode cX7_kindOf 42 = .ok (.goto 4, 3) := by decide +kernel
theorem dX7_kindOf_46 : decode cX7_kindOf 46 = .ok (.ireturn, 1) := by decide +kernel
theorem dX7_advance_0 : decode cX7_advance 0 = .ok (.aload_n 0, 1) := by decide +kernel
theorem dX7_advance_1 : decode cX7_advance 1 = .ok (.invokevirtual 31, 3) := by decide +kernel
theorem dX7_advance_4 : decode cX7_advance 4 = .ok (.ifCond .ne 4, 3) := by decide +kernel
theorem dX7_advance_8 : decode cX7_advance 8 = .ok (.aload_n 0, 1) := by decide +kernel
theorem dX7_advance_9 : decode cX7_advance 9 = .ok (.aload_n 0, 1) := by decide +kernel
theorem dX7_advance_10 : decode cX7_advance 10 = .ok (.getfield 25, 3) := by decide +kernel
theorem dX7_advance_13 : decode cX7_advance 13 = .ok (.putfield 38, 3) := by decide +kernel
theorem dX7_advance_16 : decode cX7_advance 16 = .ok (.aload_n 0, 1) := by decide +kernel
theorem dX7_advance_17 : decode cX7_advance 17 = .ok (.getfield 38, 3) := by decide +kernel
theorem dX7_advance_20 : decode cX7_advance 20 = .ok (.aload_n 0, 1) := by decide +kernel
theorem dX7_advance_21 : decode cX7_advance 21 = .ok (.getfield 19, 3) := by decide +kernel
theorem dX7_advance_24 : decode cX7_advance 24 = .ok (.if_icmp .ge 30, 3) := by decide +kernel
theorem dX7_advance_54 : decode cX7_advance 54 = .ok (.aload_n 0, 1) := by decide +kernel
theorem dX7_advance_55 : decode cX7_advance 55 = .ok (.aload_n 0, 1) := by decide +kernel
theorem dX7_advance_56 : decode cX7_advance 56 = .ok (.aload_n 0, 1) := by decide +kernel
theorem dX7_advance_57 : decode cX7_advance 57 = .ok (.getfield 38, 3) := by decide +kernel
theorem dX7_advance_60 : decode cX7_advance 60 = .ok (.invokevirtual 41, 3) := by decide +kernel
theorem dX7_advance_63 : decode cX7_advance 63 = .ok (.invokestatic 49, 3) := by decide +kernel
theorem dX7_advance_66 : decode cX7_advance 66 = .ok (.putfield 35, 3) := by decide +kernel
theorem dX7_advance_69 : decode cX7_advance 69 = .ok (.aload_n 0, 1) := by decide +kernel
theorem dX7_advance_70 : decode cX7_advance 70 = .ok (.aload_n 0, 1) := by decide +kernel
theorem dX7_advance_71 : decode cX7_advance 71 = .ok (.getfield 38, 3) := by decide +kernel
theorem dX7_advance_74 : decode cX7_advance 74 = .ok (.iconst 1, 1) := by decide +kernel
theorem dX7_advance_75 : decode cX7_advance 75 = .ok (.iadd, 1) := by decide +kernel
theorem dX7_advance_76 : decode cX7_advance 76 = .ok (.aload_n 0, 1) := by decide +kernel
theorem dX7_advance_77 : decode cX7_advance 77 = .ok (.getfield 19, 3) := by decide +kernel
theorem dX7_advance_80 : decode cX7_advance 80 = .ok (.invokestatic 52, 3) := by decide +kernel
theorem dX7_advance_83 : decode cX7_advance 83 = .ok (.putfield 25, 3) := by decide +kernel
theorem dX7_advance_86 : decode cX7_advance 86 = .ok (.aload_n 0, 1) := by decide +kernel
theorem dX7_advance_87 : decode cX7_advance 87 = .ok (.getfield 35, 3) := by decide +kernel
theorem dX7_advance_90 : decode cX7_advance 90 = .ok (.iconst 1, 1) := by decide +kernel
theorem dX7_advance_91 : decode cX7_advance 91 = .ok (.if_icmp .eq 11, 3) := by decide +kernel
theorem dX7_advance_94 : decode cX7_advance 94 = .ok (.aload_n 0, 1) := by decide +kernel
theorem dX7_advance_95 : decode cX7_advance 95 = .ok (.getfield 35, 3) := by decide +kernel
theorem dX7_advance_98 : decode cX7_advance 98 = .ok (.iconst 2, 1) := by decide +kernel
theorem dX7_advance_99 : decode cX7_advance 99 = .ok (.if_icmp .ne 7, 3) := by decide +kernel
theorem dX7_advance_106 : decode cX7_advance 106 = .ok (.iconst 0, 1) := by decide +kernel
theorem dX7_advance_107 : decode cX7_advance 107 = .ok (.istore_n 1, 1) := by decide +kernel
theorem dX7_advance_108 : decode cX7_advance 108 = .ok (.iload_n 1, 1) := by decide +kernel
theorem dX7_advance_109 : decode cX7_advance 109 = .ok (.ifCond .eq 45, 3) := by decide +kernel
theorem dX7_advance_154 : decode cX7_advance 154 = .ok (.return_, 1) := by decide +kernel
theorem dX7_start_0 : decode cX7_start 0 = .ok (.aload_n 0, 1) := by decide +kernel
theorem dX7_start_1 : decode cX7_start 1 = .ok (.iconst 0, 1) := by decide +kernel
theorem dX7_start_2 : decode cX7_start 2 = .ok (.putfield 22, 3) := by decide +kernel
theorem dX7_start_5 : decode cX7_start 5 = .ok (.aload_n 0, 1) := by decide +kernel
theorem dX7_start_6 : decode cX7_start 6 = .ok (.iconst (-1), 1) := by decide +kernel
theorem dX7_start_7 : decode cX7_start 7 = .ok (.putfield 15, 3) := by decide +kernel
theorem dX7_start_10 : decode cX7_start 10 = .ok (.aload_n 0, 1) := by decide +kernel
theorem dX7_start_11 : decode cX7_start 11 = .ok (.iconst 0, 1) := by decide +kernel
theorem dX7_start_12 : decode cX7_start 12 = .ok (.putfield 25, 3) := by decide +kernel
theorem dX7_start_15 : decode cX7_start 15 = .ok (.aload_n 0, 1) := by decide +kernel
theorem dX7_start_16 : decode cX7_start 16 = .ok (.invokevirtual 28, 3) := by decide +kernel
theorem dX7_start_19 : decode cX7_start 19 = .ok (.return_, 1) := by decide +kernel
theorem dX7_isWord_0 : decode cX7_isWord 0 = .ok (.aload_n 0, 1) := by decide +kernel
theorem dX7_isWord_1 : decode cX7_isWord 1 = .ok (.getfield 35, 3) := by decide +kernel
theorem dX7_isWord_4 : decode cX7_isWord 4 = .ok (.iconst 1, 1) := by decide +kernel
theorem dX7_isWord_5 : decode cX7_isWord 5 = .ok (.if_icmp .ne 19, 3) := by decide +kernel
theorem dX7_isWord_24 : decode cX7_isWord 24 = .ok (.iconst 0, 1) := by decide +kernel
theorem dX7_isWord_25 : decode cX7_isWord 25 = .ok (.ireturn, 1) := by decide +kernel
theorem dX7_complain_0 : decode cX7_complain 0 = .ok (.aload_n 0, 1) := by decide +kernel
theorem dX7_complain_1 : decode cX7_complain 1 = .ok (.invokevirtual 31, 3) := by decide +kernel
theorem dX7_complain_4 : decode cX7_complain 4 = .ok (.ifCond .eq 21, 3) := by decide +kernel
theorem dX7_complain_7 : decode cX7_complain 7 = .ok (.aload_n 0, 1) := by decide +kernel
theorem dX7_complain_8 : decode cX7_complain 8 = .ok (.iload_n 1, 1) := by decide +kernel
theorem dX7_complain_9 : decode cX7_complain 9 = .ok (.putfield 22, 3) := by decide +kernel
theorem dX7_complain_12 : decode cX7_complain 12 = .ok (.aload_n 0, 1) := by decide +kernel
theorem dX7_complain_13 : decode cX7_complain 13 = .ok (.aload_n 0, 1) := by decide +kernel
theorem dX7_complain_14 : decode cX7_complain 14 = .ok (.getfield 38, 3) := by decide +kernel
theorem dX7_complain_17 : decode cX7_complain 17 = .ok (.putfield 15, 3) := by decide +kernel
theorem dX7_complain_20 : decode cX7_complain 20 = .ok (.aload_n 0, 1) := by decide +kernel
theorem dX7_complain_21 : decode cX7_complain 21 = .ok (.iconst 4, 1) := by decide +kernel
theorem dX7_complain_22 : decode cX7_complain 22 = .ok (.putfield 35, 3) := by decide +kernel
theorem dX7_complain_25 : decode cX7_complain 25 = .ok (.return_, 1) := by decide +kernel
theorem dX7_takeWord_0 : decode cX7_takeWord 0 = .ok (.aload_n 0, 1) := by decide +kernel
theorem dX7_takeWord_1 : decode cX7_takeWord 1 = .ok (.aload_n 1, 1) := by decide +kernel
theorem dX7_takeWord_2 : decode cX7_takeWord 2 = .ok (.invokevirtual 77, 3) := by decide +kernel
theorem dX7_takeWord_5 : decode cX7_takeWord 5 = .ok (.ifCond .eq 10, 3) := by decide +kernel
theorem dX7_takeWord_15 : decode cX7_takeWord 15 = .ok (.aload_n 0, 1) := by decide +kernel
theorem dX7_takeWord_16 : decode cX7_takeWord 16 = .ok (.iconst 1, 1) := by decide +kernel
theorem dX7_takeWord_17 : decode cX7_takeWord 17 = .ok (.invokevirtual 81, 3) := by decide +kernel
theorem dX7_takeWord_20 : decode cX7_takeWord 20 = .ok (.return_, 1) := by decide +kernel
theorem dX7_isNumber_0 : decode cX7_isNumber 0 = .ok (.aload_n 0, 1) := by decide +kernel
theorem dX7_isNumber_1 : decode cX7_isNumber 1 = .ok (.getfield 35, 3) := by decide +kernel
theorem dX7_isNumber_4 : decode cX7_isNumber 4 = .ok (.iconst 2, 1) := by decide +kernel
theorem dX7_isNumber_5 : decode cX7_isNumber 5 = .ok (.if_icmp .ne 7, 3) := by decide +kernel
theorem dX7_isNumber_12 : decode cX7_isNumber 12 = .ok (.iconst 0, 1) := by decide +kernel
theorem dX7_isNumber_13 : decode cX7_isNumber 13 = .ok (.ireturn, 1) := by decide +kernel
theorem dX7_isFine_11 : decode cX7_isFine 11 = .ok (.iconst 0, 1) := by decide +kernel
theorem dX7_takeNumber_0 : decode cX7_takeNumber 0 = .ok (.aload_n 0, 1) := by decide +kernel
theorem dX7_takeNumber_1 : decode cX7_takeNumber 1 = .ok (.invokevirtual 58, 3) := by decide +kernel
theorem dX7_takeNumber_4 : decode cX7_takeNumber 4 = .ok (.ifCond .ne 10, 3) := by decide +kernel
theorem dX7_takeNumber_7 : decode cX7_takeNumber 7 = .ok (.aload_n 0, 1) := by decide +kernel
theorem dX7_takeNumber_8 : decode cX7_takeNumber 8 = .ok (.iconst 1, 1) := by decide +kernel
theorem dX7_takeNumber_9 : decode cX7_takeNumber 9 = .ok (.invokevirtual 81, 3) := by decide +kernel
theorem dX7_takeNumber_12 : decode cX7_takeNumber 12 = .ok (.iload_n 1, 1) := by decide +kernel
theorem dX7_takeNumber_13 : decode cX7_takeNumber 13 = .ok (.ireturn, 1) := by decide +kernel
theorem dX7_isSemicolon_0 : decode cX7_isSemicolon 0 = .ok (.aload_n 0, 1) := by decide +kernel
theorem dX7_isSemicolon_1 : decode cX7_isSemicolon 1 = .ok (.getfield 35, 3) := by decide +kernel
theorem dX7_isSemicolon_4 : decode cX7_isSemicolon 4 = .ok (.iconst 3, 1) := by decide +kernel
theorem dX7_isSemicolon_5 : decode cX7_isSemicolon 5 = .ok (.if_icmp .ne 7, 3) := by decide +kernel
theorem dX7_isSemicolon_12 : decode cX7_isSemicolon 12 = .ok (.iconst 0, 1) := by decide +kernel
theorem dX7_isSemicolon_13 : decode cX7_isSemicolon 13 = .ok (.ireturn, 1) := by decide +kernel
theorem dX7_takeSemicolon_0 : decode cX7_takeSemicolon 0 = .ok (.aload_n 0, 1) := by decide +kernel
theorem dX7_takeSemicolon_1 : decode cX7_takeSemicolon 1 = .ok (.invokevirtual 85, 3) := by decide +kernel
theorem dX7_takeSemicolon_4 : decode cX7_takeSemicolon 4 = .ok (.ifCond .eq 10, 3) := by decide +kernel
theorem dX7_takeSemicolon_14 : decode cX7_takeSemicolon 14 = .ok (.aload_n 0, 1) := by decide +kernel
theorem dX7_takeSemicolon_15 : decode cX7_takeSemicolon 15 = .ok (.iconst 1, 1) := by decide +kernel
theorem dX7_takeSemicolon_16 : decode cX7_takeSemicolon 16 = .ok (.invokevirtual 81, 3) := by decide +kernel
theorem dX7_takeSemicolon_19 : decode cX7_takeSemicolon 19 = .ok (.return_, 1) := by decide +kernel
theorem dX7_isWordOf_0 : decode cX7_isWordOf 0 = .ok (.aload_n 0, 1) := by decide +kernel
theorem dX7_isWordOf_1 : decode cX7_isWordOf 1 = .ok (.getfield 38, 3) := by decide +kernel
theorem dX7_isWordOf_4 : decode cX7_isWordOf 4 = .ok (.istore_n 2, 1) := by decide +kernel
theorem dX7_isWordOf_5 : decode cX7_isWordOf 5 = .ok (.iload_n 2, 1) := by decide +kernel
theorem dX7_isWordOf_6 : decode cX7_isWordOf 6 = .ok (.aload_n 0, 1) := by decide +kernel
theorem dX7_isWordOf_7 : decode cX7_isWordOf 7 = .ok (.getfield 25, 3) := by decide +kernel
theorem dX7_isWordOf_10 : decode cX7_isWordOf 10 = .ok (.if_icmp .ge 24, 3) := by decide +kernel
theorem dX7_isWordOf_34 : decode cX7_isWordOf 34 = .ok (.aload_n 0, 1) := by decide +kernel
theorem dX7_isWordOf_35 : decode cX7_isWordOf 35 = .ok (.getfield 35, 3) := by decide +kernel
theorem dX7_isWordOf_38 : decode cX7_isWordOf 38 = .ok (.iconst 1, 1) := by decide +kernel
theorem dX7_isWordOf_39 : decode cX7_isWordOf 39 = .ok (.if_icmp .ne 7, 3) := by decide +kernel
theorem dX7_isWordOf_46 : decode cX7_isWordOf 46 = .ok (.iconst 0, 1) := by decide +kernel
theorem dX7_isWordOf_47 : decode cX7_isWordOf 47 = .ok (.ireturn, 1) := by decide +kernel
theorem dX4_tellRow_0 : decode cX4_tellRow 0 = .ok (.iload_n 2, 1) := by decide +kernel
theorem dX4_tellRow_1 : decode cX4_tellRow 1 = .ok (.bipush 8, 2) := by decide +kernel
theorem dX4_tellRow_3 : decode cX4_tellRow 3 = .ok (.if_icmp .ne 17, 3) := by decide +kernel
theorem dX4_tellRow_20 : decode cX4_tellRow 20 = .ok (.aload_n 1, 1) := by decide +kernel
theorem dX4_tellRow_21 : decode cX4_tellRow 21 = .ok (.ldc 87, 2) := by decide +kernel
theorem dX4_tellRow_23 : decode cX4_tellRow 23 = .ok (.invokevirtual 57, 3) := by decide +kernel
theorem dX4_tellRow_26 : decode cX4_tellRow 26 = .ok (.aload_n 1, 1) := by decide +kernel
theorem dX4_tellRow_27 : decode cX4_tellRow 27 = .ok (.ldc 96, 2) := by decide +kernel
theorem dX4_tellRow_29 : decode cX4_tellRow 29 = .ok (.invokevirtual 98, 3) := by decide +kernel
theorem dX4_tellRow_32 : decode cX4_tellRow 32 = .ok (.ifCond .eq 25, 3) := by decide +kernel
theorem dX4_tellRow_57 : decode cX4_tellRow 57 = .ok (.aload_n 1, 1) := by decide +kernel
theorem dX4_tellRow_58 : decode cX4_tellRow 58 = .ok (.iconst 1, 1) := by decide +kernel
theorem dX4_tellRow_59 : decode cX4_tellRow 59 = .ok (.invokevirtual 93, 3) := by decide +kernel
theorem dX4_tellRow_62 : decode cX4_tellRow 62 = .ok (.aload_n 1, 1) := by decide +kernel
theorem dX4_tellRow_63 : decode cX4_tellRow 63 = .ok (.invokevirtual 66, 3) := by decide +kernel
theorem dX4_tellRow_66 : decode cX4_tellRow 66 = .ok (.return_, 1) := by decide +kernel
theorem dX7_goesOn_0 : decode cX7_goesOn 0 = .ok (.aload_n 0, 1) := by decide +kernel
theorem dX7_goesOn_1 : decode cX7_goesOn 1 = .ok (.invokevirtual 31, 3) := by decide +kernel
theorem dX7_goesOn_4 : decode cX7_goesOn 4 = .ok (.ifCond .eq 14, 3) := by decide +kernel
theorem dX7_goesOn_18 : decode cX7_goesOn 18 = .ok (.iconst 0, 1) := by decide +kernel
theorem dX7_goesOn_19 : decode cX7_goesOn 19 = .ok (.ireturn, 1) := by decide +kernel
theorem dX4_tell_0 : decode cX4_tell 0 = .ok (.aload_n 1, 1) := by decide +kernel
theorem dX4_tell_1 : decode cX4_tell 1 = .ok (.invokevirtual 51, 3) := by decide +kernel
theorem dX4_tell_4 : decode cX4_tell 4 = .ok (.aload_n 1, 1) := by decide +kernel
theorem dX4_tell_5 : decode cX4_tell 5 = .ok (.ldc 56, 2) := by decide +kernel
theorem dX4_tell_7 : decode cX4_tell 7 = .ok (.invokevirtual 57, 3) := by decide +kernel
theorem dX4_tell_10 : decode cX4_tell 10 = .ok (.aload_n 0, 1) := by decide +kernel
theorem dX4_tell_11 : decode cX4_tell 11 = .ok (.aload_n 1, 1) := by decide +kernel
theorem dX4_tell_12 : decode cX4_tell 12 = .ok (.iconst 1, 1) := by decide +kernel
theorem dX4_tell_13 : decode cX4_tell 13 = .ok (.bipush 16, 2) := by decide +kernel
theorem dX4_tell_15 : decode cX4_tell 15 = .ok (.invokevirtual 61, 3) := by decide +kernel
theorem dX4_tell_18 : decode cX4_tell 18 = .ok (.putfield 22, 3) := by decide +kernel
theorem dX4_tell_21 : decode cX4_tell 21 = .ok (.aload_n 1, 1) := by decide +kernel
theorem dX4_tell_22 : decode cX4_tell 22 = .ok (.ldc 64, 2) := by decide +kernel
theorem dX4_tell_24 : decode cX4_tell 24 = .ok (.invokevirtual 57, 3) := by decide +kernel
theorem dX4_tell_27 : decode cX4_tell 27 = .ok (.aload_n 0, 1) := by decide +kernel
theorem dX4_tell_28 : decode cX4_tell 28 = .ok (.aload_n 1, 1) := by decide +kernel
theorem dX4_tell_29 : decode cX4_tell 29 = .ok (.iconst 1, 1) := by decide +kernel
theorem dX4_tell_30 : decode cX4_tell 30 = .ok (.bipush 16, 2) := by decide +kernel
theorem dX4_tell_32 : decode cX4_tell 32 = .ok (.invokevirtual 61, 3) := by decide +kernel
theorem dX4_tell_35 : decode cX4_tell 35 = .ok (.putfield 18, 3) := by decide +kernel
theorem dX4_tell_38 : decode cX4_tell 38 = .ok (.aload_n 1, 1) := by decide +kernel
theorem dX4_tell_39 : decode cX4_tell 39 = .ok (.invokevirtual 66, 3) := by decide +kernel
theorem dX4_tell_42 : decode cX4_tell 42 = .ok (.aload_n 0, 1) := by decide +kernel
theorem dX4_tell_43 : decode cX4_tell 43 = .ok (.aload_n 1, 1) := by decide +kernel
theorem dX4_tell_44 : decode cX4_tell 44 = .ok (.iconst 0, 1) := by decide +kernel
theorem dX4_tell_45 : decode cX4_tell 45 = .ok (.invokevirtual 69, 3) := by decide +kernel
theorem dX4_tell_48 : decode cX4_tell 48 = .ok (.iconst 1, 1) := by decide +kernel
theorem dX4_tell_49 : decode cX4_tell 49 = .ok (.istore_n 2, 1) := by decide +kernel
theorem dX4_tell_50 : decode cX4_tell 50 = .ok (.iload_n 2, 1) := by decide +kernel
theorem dX4_tell_51 : decode cX4_tell 51 = .ok (.bipush 8, 2) := by decide +kernel
theorem dX4_tell_53 : decode cX4_tell 53 = .ok (.if_icmp .gt 22, 3) := by decide +kernel
theorem dX4_tell_56 : decode cX4_tell 56 = .ok (.aload_n 1, 1) := by decide +kernel
theorem dX4_tell_57 : decode cX4_tell 57 = .ok (.invokevirtual 73, 3) := by decide +kernel
theorem dX4_tell_60 : decode cX4_tell 60 = .ok (.ifCond .eq 15, 3) := by decide +kernel
theorem dX4_tell_75 : decode cX4_tell 75 = .ok (.aload_n 1, 1) := by decide +kernel
theorem dX4_tell_76 : decode cX4_tell 76 = .ok (.invokevirtual 77, 3) := by decide +kernel
theorem dX4_tell_79 : decode cX4_tell 79 = .ok (.ifCond .eq 12, 3) := by decide +kernel
theorem dX4_tell_91 : decode cX4_tell 91 = .ok (.aload_n 1, 1) := by decide +kernel
theorem dX4_tell_92 : decode cX4_tell 92 = .ok (.invokevirtual 77, 3) := by decide +kernel
theorem dX4_tell_95 : decode cX4_tell 95 = .ok (.ireturn, 1) := by decide +kernel
theorem dX7_empty_0 : decode cX7_empty 0 = .ok (.aload_n 0, 1) := by decide +kernel
theorem dX7_empty_1 : decode cX7_empty 1 = .ok (.iconst 0, 1) := by decide +kernel
theorem dX7_empty_2 : decode cX7_empty 2 = .ok (.putfield 19, 3) := by decide +kernel
theorem dX7_empty_5 : decode cX7_empty 5 = .ok (.return_, 1) := by decide +kernel
theorem dX11_pattern_0 : decode cX11_pattern 0 = .ok (.aload_n 0, 1) := by decide +kernel
theorem dX11_pattern_1 : decode cX11_pattern 1 = .ok (.getfield 43, 3) := by decide +kernel
theorem dX11_pattern_4 : decode cX11_pattern 4 = .ok (.aload_n 0, 1) := by decide +kernel
theorem dX11_pattern_5 : decode cX11_pattern 5 = .ok (.getfield 12, 3) := by decide +kernel
theorem dX11_pattern_8 : decode cX11_pattern 8 = .ok (.invokevirtual 109, 3) := by decide +kernel
theorem dX11_pattern_11 : decode cX11_pattern 11 = .ok (.istore_n 1, 1) := by decide +kernel
theorem dX11_pattern_12 : decode cX11_pattern 12 = .ok (.aload_n 0, 1) := by decide +kernel
theorem dX11_pattern_13 : decode cX11_pattern 13 = .ok (.getfield 12, 3) := by decide +kernel
theorem dX11_pattern_16 : decode cX11_pattern 16 = .ok (.invokevirtual 113, 3) := by decide +kernel
theorem dX11_pattern_19 : decode cX11_pattern 19 = .ok (.iload_n 1, 1) := by decide +kernel
theorem dX11_pattern_20 : decode cX11_pattern 20 = .ok (.ifCond .ne 6, 3) := by decide +kernel
theorem dX11_pattern_23 : decode cX11_pattern 23 = .ok (.bipush (-4), 2) := by decide +kernel
theorem dX11_pattern_25 : decode cX11_pattern 25 = .ok (.ireturn, 1) := by decide +kernel
theorem dX7_takeEnd_0 : decode cX7_takeEnd 0 = .ok (.aload_n 0, 1) := by decide +kernel
theorem dX7_takeEnd_1 : decode cX7_takeEnd 1 = .ok (.getfield 35, 3) := by decide +kernel
theorem dX7_takeEnd_4 : decode cX7_takeEnd 4 = .ok (.ifCond .eq 8, 3) := by decide +kernel
theorem dX7_takeEnd_7 : decode cX7_takeEnd 7 = .ok (.aload_n 0, 1) := by decide +kernel
theorem dX7_takeEnd_8 : decode cX7_takeEnd 8 = .ok (.iconst 1, 1) := by decide +kernel
theorem dX7_takeEnd_9 : decode cX7_takeEnd 9 = .ok (.invokevirtual 81, 3) := by decide +kernel
theorem dX7_takeEnd_12 : decode cX7_takeEnd 12 = .ok (.return_, 1) := by decide +kernel
theorem dX11_tellHand_0 : decode cX11_tellHand 0 = .ok (.aload_n 0, 1) := by decide +kernel
theorem dX11_tellHand_1 : decode cX11_tellHand 1 = .ok (.getfield 12, 3) := by decide +kernel
theorem dX11_tellHand_4 : decode cX11_tellHand 4 = .ok (.invokevirtual 387, 3) := by decide +kernel
theorem dX11_tellHand_7 : decode cX11_tellHand 7 = .ok (.aload_n 0, 1) := by decide +kernel
theorem dX11_tellHand_8 : decode cX11_tellHand 8 = .ok (.getfield 12, 3) := by decide +kernel
theorem dX11_tellHand_11 : decode cX11_tellHand 11 = .ok (.ldc_w 390, 3) := by decide +kernel
theorem dX11_tellHand_14 : decode cX11_tellHand 14 = .ok (.invokevirtual 392, 3) := by decide +kernel
theorem dX11_tellHand_17 : decode cX11_tellHand 17 = .ok (.iconst 0, 1) := by decide +kernel
theorem dX11_tellHand_18 : decode cX11_tellHand 18 = .ok (.istore_n 1, 1) := by decide +kernel
theorem dX11_tellHand_19 : decode cX11_tellHand 19 = .ok (.iload_n 1, 1) := by decide +kernel
theorem dX11_tellHand_20 : decode cX11_tellHand 20 = .ok (.iconst 3, 1) := by decide +kernel
theorem dX11_tellHand_21 : decode cX11_tellHand 21 = .ok (.if_icmp .ge 56, 3) := by decide +kernel
theorem dX11_tellHand_24 : decode cX11_tellHand 24 = .ok (.aload_n 0, 1) := by decide +kernel
theorem dX11_tellHand_25 : decode cX11_tellHand 25 = .ok (.getfield 12, 3) := by decide +kernel
theorem dX11_tellHand_28 : decode cX11_tellHand 28 = .ok (.iload_n 1, 1) := by decide +kernel
theorem dX11_tellHand_29 : decode cX11_tellHand 29 = .ok (.ifCond .ne 9, 3) := by decide +kernel
theorem dX11_tellHand_32 : decode cX11_tellHand 32 = .ok (.ldc_w 396, 3) := by decide +kernel
theorem dX11_tellHand_35 : decode cX11_tellHand 35 = .ok (.goto 17, 3) := by decide +kernel
theorem dX11_tellHand_52 : decode cX11_tellHand 52 = .ok (.invokevirtual 392, 3) := by decide +kernel
theorem dX11_tellHand_55 : decode cX11_tellHand 55 = .ok (.aload_n 0, 1) := by decide +kernel
theorem dX11_tellHand_56 : decode cX11_tellHand 56 = .ok (.getfield 47, 3) := by decide +kernel
theorem dX11_tellHand_59 : decode cX11_tellHand 59 = .ok (.iload_n 1, 1) := by decide +kernel
theorem dX11_tellHand_60 : decode cX11_tellHand 60 = .ok (.aload_n 0, 1) := by decide +kernel
theorem dX11_tellHand_61 : decode cX11_tellHand 61 = .ok (.getfield 12, 3) := by decide +kernel
theorem dX11_tellHand_64 : decode cX11_tellHand 64 = .ok (.iconst 0, 1) := by decide +kernel
theorem dX11_tellHand_65 : decode cX11_tellHand 65 = .ok (.bipush 100, 2) := by decide +kernel
theorem dX11_tellHand_67 : decode cX11_tellHand 67 = .ok (.invokevirtual 402, 3) := by decide +kernel
theorem dX11_tellHand_70 : decode cX11_tellHand 70 = .ok (.iastore, 1) := by decide +kernel
theorem dX11_tellHand_71 : decode cX11_tellHand 71 = .ok (.iinc 1 1, 3) := by decide +kernel
theorem dX11_tellHand_74 : decode cX11_tellHand 74 = .ok (.goto (-55), 3) := by decide +kernel
theorem dX11_tellHand_38 : decode cX11_tellHand 38 = .ok (.iload_n 1, 1) := by decide +kernel
theorem dX11_tellHand_39 : decode cX11_tellHand 39 = .ok (.iconst 1, 1) := by decide +kernel
theorem dX11_tellHand_40 : decode cX11_tellHand 40 = .ok (.if_icmp .ne 9, 3) := by decide +kernel
theorem dX11_tellHand_43 : decode cX11_tellHand 43 = .ok (.ldc_w 398, 3) := by decide +kernel
theorem dX11_tellHand_46 : decode cX11_tellHand 46 = .ok (.goto 6, 3) := by decide +kernel
theorem dX11_tellHand_49 : decode cX11_tellHand 49 = .ok (.ldc_w 400, 3) := by decide +kernel
theorem dX11_tellHand_77 : decode cX11_tellHand 77 = .ok (.aload_n 0, 1) := by decide +kernel
theorem dX11_tellHand_78 : decode cX11_tellHand 78 = .ok (.getfield 12, 3) := by decide +kernel
theorem dX11_tellHand_81 : decode cX11_tellHand 81 = .ok (.invokevirtual 405, 3) := by decide +kernel
theorem dX11_tellHand_84 : decode cX11_tellHand 84 = .ok (.aload_n 0, 1) := by decide +kernel
theorem dX11_tellHand_85 : decode cX11_tellHand 85 = .ok (.getfield 12, 3) := by decide +kernel
theorem dX11_tellHand_88 : decode cX11_tellHand 88 = .ok (.invokevirtual 408, 3) := by decide +kernel
theorem dX11_tellHand_91 : decode cX11_tellHand 91 = .ok (.aload_n 0, 1) := by decide +kernel
theorem dX11_tellHand_92 : decode cX11_tellHand 92 = .ok (.getfield 12, 3) := by decide +kernel
theorem dX11_tellHand_95 : decode cX11_tellHand 95 = .ok (.invokevirtual 411, 3) := by decide +kernel
theorem dX11_tellHand_98 : decode cX11_tellHand 98 = .ok (.ireturn, 1) := by decide +kernel
theorem dX11_hand_0 : decode cX11_hand 0 = .ok (.aload_n 0, 1) := by decide +kernel
theorem dX11_hand_1 : decode cX11_hand 1 = .ok (.invokevirtual 129, 3) := by decide +kernel
theorem dX11_hand_4 : decode cX11_hand 4 = .ok (.istore_n 1, 1) := by decide +kernel
theorem dX11_hand_5 : decode cX11_hand 5 = .ok (.aload_n 0, 1) := by decide +kernel
theorem dX11_hand_6 : decode cX11_hand 6 = .ok (.getfield 12, 3) := by decide +kernel
theorem dX11_hand_9 : decode cX11_hand 9 = .ok (.invokevirtual 113, 3) := by decide +kernel
theorem dX11_hand_12 : decode cX11_hand 12 = .ok (.iload_n 1, 1) := by decide +kernel
theorem dX11_hand_13 : decode cX11_hand 13 = .ok (.ifCond .ne 6, 3) := by decide +kernel
theorem dX11_hand_16 : decode cX11_hand 16 = .ok (.bipush (-4), 2) := by decide +kernel
theorem dX11_hand_18 : decode cX11_hand 18 = .ok (.ireturn, 1) := by decide +kernel
theorem dX7_wordLength_0 : decode cX7_wordLength 0 = .ok (.aload_n 0, 1) := by decide +kernel
theorem dX7_wordLength_1 : decode cX7_wordLength 1 = .ok (.getfield 35, 3) := by decide +kernel
theorem dX7_wordLength_4 : decode cX7_wordLength 4 = .ok (.iconst 1, 1) := by decide +kernel
theorem dX7_wordLength_5 : decode cX7_wordLength 5 = .ok (.if_icmp .ne 15, 3) := by decide +kernel
theorem dX7_wordLength_20 : decode cX7_wordLength 20 = .ok (.iconst 0, 1) := by decide +kernel
theorem dX7_wordLength_21 : decode cX7_wordLength 21 = .ok (.ireturn, 1) := by decide +kernel
theorem dX10_tellSorts_0 : decode cX10_tellSorts 0 = .ok (.aload_n 0, 1) := by decide +kernel
theorem dX10_tellSorts_1 : decode cX10_tellSorts 1 = .ok (.iconst 0, 1) := by decide +kernel
theorem dX10_tellSorts_2 : decode cX10_tellSorts 2 = .ok (.putfield 25, 3) := by decide +kernel
theorem dX10_tellSorts_5 : decode cX10_tellSorts 5 = .ok (.aload_n 1, 1) := by decide +kernel
theorem dX10_tellSorts_6 : decode cX10_tellSorts 6 = .ok (.ldc 80, 2) := by decide +kernel
theorem dX10_tellSorts_8 : decode cX10_tellSorts 8 = .ok (.invokevirtual 82, 3) := by decide +kernel
theorem dX10_tellSorts_11 : decode cX10_tellSorts 11 = .ok (.istore_n 2, 1) := by decide +kernel
theorem dX10_tellSorts_12 : decode cX10_tellSorts 12 = .ok (.iconst 0, 1) := by decide +kernel
theorem dX10_tellSorts_13 : decode cX10_tellSorts 13 = .ok (.istore_n 3, 1) := by decide +kernel
theorem dX10_tellSorts_14 : decode cX10_tellSorts 14 = .ok (.iload_n 3, 1) := by decide +kernel
theorem dX10_tellSorts_15 : decode cX10_tellSorts 15 = .ok (.aload_n 1, 1) := by decide +kernel
theorem dX10_tellSorts_16 : decode cX10_tellSorts 16 = .ok (.invokevirtual 85, 3) := by decide +kernel
theorem dX10_tellSorts_19 : decode cX10_tellSorts 19 = .ok (.if_icmp .ge 51, 3) := by decide +kernel
theorem dX10_tellSorts_70 : decode cX10_tellSorts 70 = .ok (.iload_n 2, 1) := by decide +kernel
theorem dX10_tellSorts_71 : decode cX10_tellSorts 71 = .ok (.ifCond .eq 10, 3) := by decide +kernel
theorem dX10_tellSorts_81 : decode cX10_tellSorts 81 = .ok (.aload_n 1, 1) := by decide +kernel
theorem dX10_tellSorts_82 : decode cX10_tellSorts 82 = .ok (.iconst 1, 1) := by decide +kernel
theorem dX10_tellSorts_83 : decode cX10_tellSorts 83 = .ok (.invokevirtual 96, 3) := by decide +kernel
theorem dX10_tellSorts_86 : decode cX10_tellSorts 86 = .ok (.return_, 1) := by decide +kernel
theorem dX7_mayTakeWord_0 : decode cX7_mayTakeWord 0 = .ok (.aload_n 0, 1) := by decide +kernel
theorem dX7_mayTakeWord_1 : decode cX7_mayTakeWord 1 = .ok (.aload_n 1, 1) := by decide +kernel
theorem dX7_mayTakeWord_2 : decode cX7_mayTakeWord 2 = .ok (.invokevirtual 77, 3) := by decide +kernel
theorem dX7_mayTakeWord_5 : decode cX7_mayTakeWord 5 = .ok (.ifCond .ne 5, 3) := by decide +kernel
theorem dX7_mayTakeWord_8 : decode cX7_mayTakeWord 8 = .ok (.iconst 0, 1) := by decide +kernel
theorem dX7_mayTakeWord_9 : decode cX7_mayTakeWord 9 = .ok (.ireturn, 1) := by decide +kernel
theorem dX10_tell_0 : decode cX10_tell 0 = .ok (.aload_n 0, 1) := by decide +kernel
theorem dX10_tell_1 : decode cX10_tell 1 = .ok (.iconst 1, 1) := by decide +kernel
theorem dX10_tell_2 : decode cX10_tell 2 = .ok (.putfield 21, 3) := by decide +kernel
theorem dX10_tell_5 : decode cX10_tell 5 = .ok (.aload_n 1, 1) := by decide +kernel
theorem dX10_tell_6 : decode cX10_tell 6 = .ok (.invokevirtual 34, 3) := by decide +kernel
theorem dX10_tell_9 : decode cX10_tell 9 = .ok (.aload_n 1, 1) := by decide +kernel
theorem dX10_tell_10 : decode cX10_tell 10 = .ok (.ldc 39, 2) := by decide +kernel
theorem dX10_tell_12 : decode cX10_tell 12 = .ok (.invokevirtual 41, 3) := by decide +kernel
theorem dX10_tell_15 : decode cX10_tell 15 = .ok (.aload_n 1, 1) := by decide +kernel
theorem dX10_tell_16 : decode cX10_tell 16 = .ok (.ldc 45, 2) := by decide +kernel
theorem dX10_tell_18 : decode cX10_tell 18 = .ok (.invokevirtual 41, 3) := by decide +kernel
theorem dX10_tell_21 : decode cX10_tell 21 = .ok (.aload_n 0, 1) := by decide +kernel
theorem dX10_tell_22 : decode cX10_tell 22 = .ok (.aload_n 1, 1) := by decide +kernel
theorem dX10_tell_23 : decode cX10_tell 23 = .ok (.invokevirtual 47, 3) := by decide +kernel
theorem dX10_tell_26 : decode cX10_tell 26 = .ok (.aload_n 0, 1) := by decide +kernel
theorem dX10_tell_27 : decode cX10_tell 27 = .ok (.aload_n 1, 1) := by decide +kernel
theorem dX10_tell_28 : decode cX10_tell 28 = .ok (.ldc 51, 2) := by decide +kernel
theorem dX10_tell_30 : decode cX10_tell 30 = .ok (.invokevirtual 52, 3) := by decide +kernel
theorem dX10_tell_33 : decode cX10_tell 33 = .ok (.ifCond .eq 13, 3) := by decide +kernel
theorem dX10_tell_46 : decode cX10_tell 46 = .ok (.iconst 1, 1) := by decide +kernel
theorem dX10_tell_47 : decode cX10_tell 47 = .ok (.putfield 9, 3) := by decide +kernel
theorem dX10_tell_50 : decode cX10_tell 50 = .ok (.aload_n 0, 1) := by decide +kernel
theorem dX10_tell_51 : decode cX10_tell 51 = .ok (.aload_n 1, 1) := by decide +kernel
theorem dX10_tell_52 : decode cX10_tell 52 = .ok (.ldc 60, 2) := by decide +kernel
theorem dX10_tell_54 : decode cX10_tell 54 = .ok (.invokevirtual 52, 3) := by decide +kernel
theorem dX10_tell_57 : decode cX10_tell 57 = .ok (.ifCond .eq 12, 3) := by decide +kernel
theorem dX10_tell_69 : decode cX10_tell 69 = .ok (.iconst 1, 1) := by decide +kernel
theorem dX10_tell_70 : decode cX10_tell 70 = .ok (.putfield 15, 3) := by decide +kernel
theorem dX10_tell_73 : decode cX10_tell 73 = .ok (.aload_n 0, 1) := by decide +kernel
theorem dX10_tell_74 : decode cX10_tell 74 = .ok (.aload_n 1, 1) := by decide +kernel
theorem dX10_tell_75 : decode cX10_tell 75 = .ok (.ldc 61, 2) := by decide +kernel
theorem dX10_tell_77 : decode cX10_tell 77 = .ok (.invokevirtual 52, 3) := by decide +kernel
theorem dX10_tell_80 : decode cX10_tell 80 = .ok (.ifCond .eq 10, 3) := by decide +kernel
theorem dX10_tell_90 : decode cX10_tell 90 = .ok (.iconst 1, 1) := by decide +kernel
theorem dX10_tell_91 : decode cX10_tell 91 = .ok (.putfield 18, 3) := by decide +kernel
theorem dX10_tell_94 : decode cX10_tell 94 = .ok (.aload_n 0, 1) := by decide +kernel
theorem dX10_tell_95 : decode cX10_tell 95 = .ok (.aload_n 1, 1) := by decide +kernel
theorem dX10_tell_96 : decode cX10_tell 96 = .ok (.ldc 66, 2) := by decide +kernel
theorem dX10_tell_98 : decode cX10_tell 98 = .ok (.invokevirtual 52, 3) := by decide +kernel
theorem dX10_tell_101 : decode cX10_tell 101 = .ok (.putfield 28, 3) := by decide +kernel
theorem dX10_tell_104 : decode cX10_tell 104 = .ok (.aload_n 0, 1) := by decide +kernel
theorem dX10_tell_105 : decode cX10_tell 105 = .ok (.aload_n 1, 1) := by decide +kernel
theorem dX10_tell_106 : decode cX10_tell 106 = .ok (.ldc 68, 2) := by decide +kernel
theorem dX10_tell_108 : decode cX10_tell 108 = .ok (.invokevirtual 52, 3) := by decide +kernel
theorem dX10_tell_111 : decode cX10_tell 111 = .ok (.putfield 31, 3) := by decide +kernel
theorem dX10_tell_114 : decode cX10_tell 114 = .ok (.aload_n 1, 1) := by decide +kernel
theorem dX10_tell_115 : decode cX10_tell 115 = .ok (.invokevirtual 70, 3) := by decide +kernel
theorem dX10_tell_118 : decode cX10_tell 118 = .ok (.aload_n 1, 1) := by decide +kernel
theorem dX10_tell_119 : decode cX10_tell 119 = .ok (.invokevirtual 73, 3) := by decide +kernel
theorem dX10_tell_122 : decode cX10_tell 122 = .ok (.aload_n 1, 1) := by decide +kernel
theorem dX10_tell_123 : decode cX10_tell 123 = .ok (.invokevirtual 76, 3) := by decide +kernel
theorem dX10_tell_126 : decode cX10_tell 126 = .ok (.ireturn, 1) := by decide +kernel
theorem dX11_way_0 : decode cX11_way 0 = .ok (.iload_n 1, 1) := by decide +kernel
theorem dX11_way_1 : decode cX11_way 1 = .ok (.invokestatic 142, 3) := by decide +kernel
theorem dX11_way_4 : decode cX11_way 4 = .ok (.ifCond .ne 6, 3) := by decide +kernel
theorem dX11_way_10 : decode cX11_way 10 = .ok (.aload_n 0, 1) := by decide +kernel
theorem dX11_way_11 : decode cX11_way 11 = .ok (.getfield 54, 3) := by decide +kernel
theorem dX11_way_14 : decode cX11_way 14 = .ok (.aload_n 0, 1) := by decide +kernel
theorem dX11_way_15 : decode cX11_way 15 = .ok (.getfield 12, 3) := by decide +kernel
theorem dX11_way_18 : decode cX11_way 18 = .ok (.invokevirtual 145, 3) := by decide +kernel
theorem dX11_way_21 : decode cX11_way 21 = .ok (.istore_n 2, 1) := by decide +kernel
theorem dX11_way_22 : decode cX11_way 22 = .ok (.aload_n 0, 1) := by decide +kernel
theorem dX11_way_23 : decode cX11_way 23 = .ok (.getfield 12, 3) := by decide +kernel
theorem dX11_way_26 : decode cX11_way 26 = .ok (.invokevirtual 113, 3) := by decide +kernel
theorem dX11_way_29 : decode cX11_way 29 = .ok (.iload_n 2, 1) := by decide +kernel
theorem dX11_way_30 : decode cX11_way 30 = .ok (.ifCond .ne 6, 3) := by decide +kernel
theorem dX11_way_33 : decode cX11_way 33 = .ok (.bipush (-4), 2) := by decide +kernel
theorem dX11_way_35 : decode cX11_way 35 = .ok (.ireturn, 1) := by decide +kernel
theorem dX11_way_7 : decode cX11_way 7 = .ok (.bipush (-2), 2) := by decide +kernel
theorem dX11_way_9 : decode cX11_way 9 = .ok (.ireturn, 1) := by decide +kernel
theorem dX0_waysThere_0 : decode cX0_waysThere 0 = .ok (.iconst 0, 1) := by decide +kernel
theorem dX0_waysThere_1 : decode cX0_waysThere 1 = .ok (.istore_n 1, 1) := by decide +kernel
theorem dX0_waysThere_2 : decode cX0_waysThere 2 = .ok (.iconst 0, 1) := by decide +kernel
theorem dX0_waysThere_3 : decode cX0_waysThere 3 = .ok (.istore_n 2, 1) := by decide +kernel
theorem dX0_waysThere_4 : decode cX0_waysThere 4 = .ok (.iload_n 2, 1) := by decide +kernel
theorem dX0_waysThere_5 : decode cX0_waysThere 5 = .ok (.bipush 6, 2) := by decide +kernel
theorem dX0_waysThere_7 : decode cX0_waysThere 7 = .ok (.if_icmp .ge 24, 3) := by decide +kernel
theorem dX0_waysThere_10 : decode cX0_waysThere 10 = .ok (.aload_n 0, 1) := by decide +kernel
theorem dX0_waysThere_11 : decode cX0_waysThere 11 = .ok (.getfield 24, 3) := by decide +kernel
theorem dX0_waysThere_14 : decode cX0_waysThere 14 = .ok (.iload_n 2, 1) := by decide +kernel
theorem dX0_waysThere_15 : decode cX0_waysThere 15 = .ok (.aaload, 1) := by decide +kernel
theorem dX0_waysThere_16 : decode cX0_waysThere 16 = .ok (.getfield 76, 3) := by decide +kernel
theorem dX0_waysThere_19 : decode cX0_waysThere 19 = .ok (.ifCond .eq 6, 3) := by decide +kernel
theorem dX0_waysThere_25 : decode cX0_waysThere 25 = .ok (.iinc 2 1, 3) := by decide +kernel
theorem dX0_waysThere_28 : decode cX0_waysThere 28 = .ok (.goto (-24), 3) := by decide +kernel
theorem dX0_waysThere_31 : decode cX0_waysThere 31 = .ok (.iload_n 1, 1) := by decide +kernel
theorem dX0_waysThere_32 : decode cX0_waysThere 32 = .ok (.ireturn, 1) := by decide +kernel
theorem dX0_clothsThere_0 : decode cX0_clothsThere 0 = .ok (.iconst 0, 1) := by decide +kernel
theorem dX0_clothsThere_1 : decode cX0_clothsThere 1 = .ok (.istore_n 1, 1) := by decide +kernel
theorem dX0_clothsThere_2 : decode cX0_clothsThere 2 = .ok (.iconst 0, 1) := by decide +kernel
theorem dX0_clothsThere_3 : decode cX0_clothsThere 3 = .ok (.istore_n 2, 1) := by decide +kernel
theorem dX0_clothsThere_4 : decode cX0_clothsThere 4 = .ok (.iload_n 2, 1) := by decide +kernel
theorem dX0_clothsThere_5 : decode cX0_clothsThere 5 = .ok (.iconst 4, 1) := by decide +kernel
theorem dX0_clothsThere_6 : decode cX0_clothsThere 6 = .ok (.if_icmp .ge 24, 3) := by decide +kernel
theorem dX0_clothsThere_9 : decode cX0_clothsThere 9 = .ok (.aload_n 0, 1) := by decide +kernel
theorem dX0_clothsThere_10 : decode cX0_clothsThere 10 = .ok (.getfield 44, 3) := by decide +kernel
theorem dX0_clothsThere_13 : decode cX0_clothsThere 13 = .ok (.iload_n 2, 1) := by decide +kernel
theorem dX0_clothsThere_14 : decode cX0_clothsThere 14 = .ok (.aaload, 1) := by decide +kernel
theorem dX0_clothsThere_15 : decode cX0_clothsThere 15 = .ok (.getfield 72, 3) := by decide +kernel
theorem dX0_clothsThere_18 : decode cX0_clothsThere 18 = .ok (.ifCond .eq 6, 3) := by decide +kernel
theorem dX0_clothsThere_24 : decode cX0_clothsThere 24 = .ok (.iinc 2 1, 3) := by decide +kernel
theorem dX0_clothsThere_27 : decode cX0_clothsThere 27 = .ok (.goto (-23), 3) := by decide +kernel
theorem dX0_clothsThere_30 : decode cX0_clothsThere 30 = .ok (.iload_n 1, 1) := by decide +kernel
theorem dX0_clothsThere_31 : decode cX0_clothsThere 31 = .ok (.ireturn, 1) := by decide +kernel
theorem dX11_slotsThere_0 : decode cX11_slotsThere 0 = .ok (.iconst 0, 1) := by decide +kernel
theorem dX11_slotsThere_1 : decode cX11_slotsThere 1 = .ok (.istore_n 1, 1) := by decide +kernel
theorem dX11_slotsThere_2 : decode cX11_slotsThere 2 = .ok (.iconst 0, 1) := by decide +kernel
theorem dX11_slotsThere_3 : decode cX11_slotsThere 3 = .ok (.istore_n 2, 1) := by decide +kernel
theorem dX11_slotsThere_4 : decode cX11_slotsThere 4 = .ok (.iload_n 2, 1) := by decide +kernel
theorem dX11_slotsThere_5 : decode cX11_slotsThere 5 = .ok (.iconst 4, 1) := by decide +kernel
theorem dX11_slotsThere_6 : decode cX11_slotsThere 6 = .ok (.if_icmp .ge 24, 3) := by decide +kernel
theorem dX11_slotsThere_9 : decode cX11_slotsThere 9 = .ok (.aload_n 0, 1) := by decide +kernel
theorem dX11_slotsThere_10 : decode cX11_slotsThere 10 = .ok (.getfield 36, 3) := by decide +kernel
theorem dX11_slotsThere_13 : decode cX11_slotsThere 13 = .ok (.iload_n 2, 1) := by decide +kernel
theorem dX11_slotsThere_14 : decode cX11_slotsThere 14 = .ok (.aaload, 1) := by decide +kernel
theorem dX11_slotsThere_15 : decode cX11_slotsThere 15 = .ok (.invokevirtual 359, 3) := by decide +kernel
theorem dX11_slotsThere_18 : decode cX11_slotsThere 18 = .ok (.ifCond .eq 6, 3) := by decide +kernel
theorem dX11_slotsThere_24 : decode cX11_slotsThere 24 = .ok (.iinc 2 1, 3) := by decide +kernel
theorem dX11_slotsThere_27 : decode cX11_slotsThere 27 = .ok (.goto (-23), 3) := by decide +kernel
theorem dX11_slotsThere_30 : decode cX11_slotsThere 30 = .ok (.iload_n 1, 1) := by decide +kernel
theorem dX11_slotsThere_31 : decode cX11_slotsThere 31 = .ok (.ireturn, 1) := by decide +kernel
theorem dX11_count_0 : decode cX11_count 0 = .ok (.iload_n 1, 1) := by decide +kernel
theorem dX11_count_1 : decode cX11_count 1 = .ok (.tableswitch 147 0 9 #[55, 66, 77, 88, 96, 107, 118, 126, 134, 142], 55) := by decide +kernel
theorem dX11_count_56 : decode cX11_count 56 = .ok (.aload_n 0, 1) := by decide +kernel
theorem dX11_count_57 : decode cX11_count 57 = .ok (.getfield 19, 3) := by decide +kernel
theorem dX11_count_60 : decode cX11_count 60 = .ok (.getfield 116, 3) := by decide +kernel
theorem dX11_count_63 : decode cX11_count 63 = .ok (.getfield 335, 3) := by decide +kernel
theorem dX11_count_66 : decode cX11_count 66 = .ok (.ireturn, 1) := by decide +kernel
theorem dX11_count_67 : decode cX11_count 67 = .ok (.aload_n 0, 1) := by decide +kernel
theorem dX11_count_68 : decode cX11_count 68 = .ok (.getfield 19, 3) := by decide +kernel
theorem dX11_count_71 : decode cX11_count 71 = .ok (.getfield 116, 3) := by decide +kernel
theorem dX11_count_74 : decode cX11_count 74 = .ok (.getfield 338, 3) := by decide +kernel
theorem dX11_count_77 : decode cX11_count 77 = .ok (.ireturn, 1) := by decide +kernel
theorem dX11_count_78 : decode cX11_count 78 = .ok (.aload_n 0, 1) := by decide +kernel
theorem dX11_count_79 : decode cX11_count 79 = .ok (.getfield 19, 3) := by decide +kernel
theorem dX11_count_82 : decode cX11_count 82 = .ok (.getfield 116, 3) := by decide +kernel
theorem dX11_count_85 : decode cX11_count 85 = .ok (.getfield 126, 3) := by decide +kernel
theorem dX11_count_88 : decode cX11_count 88 = .ok (.ireturn, 1) := by decide +kernel
theorem dX11_count_89 : decode cX11_count 89 = .ok (.aload_n 0, 1) := by decide +kernel
theorem dX11_count_90 : decode cX11_count 90 = .ok (.getfield 19, 3) := by decide +kernel
theorem dX11_count_93 : decode cX11_count 93 = .ok (.invokevirtual 341, 3) := by decide +kernel
theorem dX11_count_96 : decode cX11_count 96 = .ok (.ireturn, 1) := by decide +kernel
theorem dX11_count_97 : decode cX11_count 97 = .ok (.aload_n 0, 1) := by decide +kernel
theorem dX11_count_98 : decode cX11_count 98 = .ok (.getfield 19, 3) := by decide +kernel
theorem dX11_count_101 : decode cX11_count 101 = .ok (.getfield 158, 3) := by decide +kernel
theorem dX11_count_104 : decode cX11_count 104 = .ok (.getfield 164, 3) := by decide +kernel
theorem dX11_count_107 : decode cX11_count 107 = .ok (.ireturn, 1) := by decide +kernel
theorem dX11_count_108 : decode cX11_count 108 = .ok (.aload_n 0, 1) := by decide +kernel
theorem dX11_count_109 : decode cX11_count 109 = .ok (.getfield 19, 3) := by decide +kernel
theorem dX11_count_112 : decode cX11_count 112 = .ok (.getfield 168, 3) := by decide +kernel
theorem dX11_count_115 : decode cX11_count 115 = .ok (.getfield 174, 3) := by decide +kernel
theorem dX11_count_118 : decode cX11_count 118 = .ok (.ireturn, 1) := by decide +kernel
theorem dX11_count_119 : decode cX11_count 119 = .ok (.aload_n 0, 1) := by decide +kernel
theorem dX11_count_120 : decode cX11_count 120 = .ok (.getfield 19, 3) := by decide +kernel
theorem dX11_count_123 : decode cX11_count 123 = .ok (.invokevirtual 344, 3) := by decide +kernel
theorem dX11_count_126 : decode cX11_count 126 = .ok (.ireturn, 1) := by decide +kernel
theorem dX11_count_127 : decode cX11_count 127 = .ok (.aload_n 0, 1) := by decide +kernel
theorem dX11_count_128 : decode cX11_count 128 = .ok (.getfield 12, 3) := by decide +kernel
theorem dX11_count_131 : decode cX11_count 131 = .ok (.getfield 105, 3) := by decide +kernel
theorem dX11_count_134 : decode cX11_count 134 = .ok (.ireturn, 1) := by decide +kernel
theorem dX11_count_135 : decode cX11_count 135 = .ok (.aload_n 0, 1) := by decide +kernel
theorem dX11_count_136 : decode cX11_count 136 = .ok (.getfield 30, 3) := by decide +kernel
theorem dX11_count_139 : decode cX11_count 139 = .ok (.getfield 213, 3) := by decide +kernel
theorem dX11_count_142 : decode cX11_count 142 = .ok (.ireturn, 1) := by decide +kernel
theorem dX11_count_143 : decode cX11_count 143 = .ok (.aload_n 0, 1) := by decide +kernel
theorem dX11_count_144 : decode cX11_count 144 = .ok (.invokevirtual 347, 3) := by decide +kernel
theorem dX11_count_147 : decode cX11_count 147 = .ok (.ireturn, 1) := by decide +kernel
theorem dX11_count_148 : decode cX11_count 148 = .ok (.iconst (-1), 1) := by decide +kernel
theorem dX11_count_149 : decode cX11_count 149 = .ok (.ireturn, 1) := by decide +kernel
theorem dX10_init_0 : decode cX10_init 0 = .ok (.aload_n 0, 1) := by decide +kernel
theorem dX10_init_1 : decode cX10_init 1 = .ok (.invokespecial 3, 3) := by decide +kernel
theorem dX10_init_4 : decode cX10_init 4 = .ok (.aload_n 0, 1) := by decide +kernel
theorem dX10_init_5 : decode cX10_init 5 = .ok (.iconst 1, 1) := by decide +kernel
theorem dX10_init_6 : decode cX10_init 6 = .ok (.putfield 9, 3) := by decide +kernel
theorem dX10_init_9 : decode cX10_init 9 = .ok (.aload_n 0, 1) := by decide +kernel
theorem dX10_init_10 : decode cX10_init 10 = .ok (.iconst 1, 1) := by decide +kernel
theorem dX10_init_11 : decode cX10_init 11 = .ok (.putfield 15, 3) := by decide +kernel
theorem dX10_init_14 : decode cX10_init 14 = .ok (.aload_n 0, 1) := by decide +kernel
theorem dX10_init_15 : decode cX10_init 15 = .ok (.iconst 1, 1) := by decide +kernel
theorem dX10_init_16 : decode cX10_init 16 = .ok (.putfield 18, 3) := by decide +kernel
theorem dX10_init_19 : decode cX10_init 19 = .ok (.return_, 1) := by decide +kernel
theorem dX1_init_0 : decode cX1_init 0 = .ok (.aload_n 0, 1) := by decide +kernel
theorem dX1_init_1 : decode cX1_init 1 = .ok (.invokespecial 3, 3) := by decide +kernel
theorem dX1_init_4 : decode cX1_init 4 = .ok (.aload_n 0, 1) := by decide +kernel
theorem dX1_init_5 : decode cX1_init 5 = .ok (.sipush 256, 3) := by decide +kernel
theorem dX1_init_8 : decode cX1_init 8 = .ok (.newarray .byte, 2) := by decide +kernel
theorem dX1_init_10 : decode cX1_init 10 = .ok (.putfield 9, 3) := by decide +kernel
theorem dX1_init_13 : decode cX1_init 13 = .ok (.return_, 1) := by decide +kernel
theorem dX2_init_0 : decode cX2_init 0 = .ok (.aload_n 0, 1) := by decide +kernel
theorem dX2_init_1 : decode cX2_init 1 = .ok (.invokespecial 3, 3) := by decide +kernel
theorem dX2_init_4 : decode cX2_init 4 = .ok (.aload_n 0, 1) := by decide +kernel
theorem dX2_init_5 : decode cX2_init 5 = .ok (.bipush 51, 2) := by decide +kernel
theorem dX2_init_7 : decode cX2_init 7 = .ok (.newarray .int, 2) := by decide +kernel
theorem dX2_init_9 : decode cX2_init 9 = .ok (.putfield 9, 3) := by decide +kernel
theorem dX2_init_12 : decode cX2_init 12 = .ok (.return_, 1) := by decide +kernel
theorem dX3_init_0 : decode cX3_init 0 = .ok (.aload_n 0, 1) := by decide +kernel
theorem dX3_init_1 : decode cX3_init 1 = .ok (.invokespecial 3, 3) := by decide +kernel
theorem dX3_init_4 : decode cX3_init 4 = .ok (.aload_n 0, 1) := by decide +kernel
theorem dX3_init_5 : decode cX3_init 5 = .ok (.bipush 12, 2) := by decide +kernel
theorem dX3_init_7 : decode cX3_init 7 = .ok (.newarray .int, 2) := by decide +kernel
theorem dX3_init_9 : decode cX3_init 9 = .ok (.putfield 9, 3) := by decide +kernel
theorem dX3_init_12 : decode cX3_init 12 = .ok (.aload_n 0, 1) := by decide +kernel
theorem dX3_init_13 : decode cX3_init 13 = .ok (.bipush 12, 2) := by decide +kernel
theorem dX3_init_15 : decode cX3_init 15 = .ok (.newarray .int, 2) := by decide +kernel
theorem dX3_init_17 : decode cX3_init 17 = .ok (.putfield 15, 3) := by decide +kernel
theorem dX3_init_20 : decode cX3_init 20 = .ok (.aload_n 0, 1) := by decide +kernel
theorem dX3_init_21 : decode cX3_init 21 = .ok (.bipush 12, 2) := by decide +kernel
theorem dX3_init_23 : decode cX3_init 23 = .ok (.newarray .int, 2) := by decide +kernel
theorem dX3_init_25 : decode cX3_init 25 = .ok (.putfield 18, 3) := by decide +kernel
theorem dX3_init_28 : decode cX3_init 28 = .ok (.return_, 1) := by decide +kernel
theorem dX4_init_0 : decode cX4_init 0 = .ok (.aload_n 0, 1) := by decide +kernel
theorem dX4_init_1 : decode cX4_init 1 = .ok (.invokespecial 3, 3) := by decide +kernel
theorem dX4_init_4 : decode cX4_init 4 = .ok (.aload_n 0, 1) := by decide +kernel
theorem dX4_init_5 : decode cX4_init 5 = .ok (.sipush 256, 3) := by decide +kernel
theorem dX4_init_8 : decode cX4_init 8 = .ok (.newarray .int, 2) := by decide +kernel
theorem dX4_init_10 : decode cX4_init 10 = .ok (.putfield 9, 3) := by decide +kernel
theorem dX4_init_13 : decode cX4_init 13 = .ok (.aload_n 0, 1) := by decide +kernel
theorem dX4_init_14 : decode cX4_init 14 = .ok (.sipush 256, 3) := by decide +kernel
theorem dX4_init_17 : decode cX4_init 17 = .ok (.newarray .int, 2) := by decide +kernel
theorem dX4_init_19 : decode cX4_init 19 = .ok (.putfield 15, 3) := by decide +kernel
theorem dX4_init_22 : decode cX4_init 22 = .ok (.return_, 1) := by decide +kernel
theorem dX5_init_0 : decode cX5_init 0 = .ok (.aload_n 0, 1) := by decide +kernel
theorem dX5_init_1 : decode cX5_init 1 = .ok (.invokespecial 3, 3) := by decide +kernel
theorem dX5_init_4 : decode cX5_init 4 = .ok (.aload_n 0, 1) := by decide +kernel
theorem dX5_init_5 : decode cX5_init 5 = .ok (.bipush 60, 2) := by decide +kernel
theorem dX5_init_7 : decode cX5_init 7 = .ok (.newarray .long, 2) := by decide +kernel
theorem dX5_init_9 : decode cX5_init 9 = .ok (.putfield 9, 3) := by decide +kernel
theorem dX5_init_12 : decode cX5_init 12 = .ok (.aload_n 0, 1) := by decide +kernel
theorem dX5_init_13 : decode cX5_init 13 = .ok (.iconst (-1), 1) := by decide +kernel
theorem dX5_init_14 : decode cX5_init 14 = .ok (.putfield 15, 3) := by decide +kernel
theorem dX5_init_17 : decode cX5_init 17 = .ok (.return_, 1) := by decide +kernel
theorem dX7_init_0 : decode cX7_init 0 = .ok (.aload_n 0, 1) := by decide +kernel
theorem dX7_init_1 : decode cX7_init 1 = .ok (.invokespecial 3, 3) := by decide +kernel
theorem dX7_init_4 : decode cX7_init 4 = .ok (.aload_n 0, 1) := by decide +kernel
theorem dX7_init_5 : decode cX7_init 5 = .ok (.sipush 600, 3) := by decide +kernel
theorem dX7_init_8 : decode cX7_init 8 = .ok (.newarray .int, 2) := by decide +kernel
theorem dX7_init_10 : decode cX7_init 10 = .ok (.putfield 9, 3) := by decide +kernel
theorem dX7_init_13 : decode cX7_init 13 = .ok (.aload_n 0, 1) := by decide +kernel
theorem dX7_init_14 : decode cX7_init 14 = .ok (.iconst (-1), 1) := by decide +kernel
theorem dX7_init_15 : decode cX7_init 15 = .ok (.putfield 15, 3) := by decide +kernel
theorem dX7_init_18 : decode cX7_init 18 = .ok (.return_, 1) := by decide +kernel
theorem dX9_init_0 : decode cX9_init 0 = .ok (.aload_n 0, 1) := by decide +kernel
theorem dX9_init_1 : decode cX9_init 1 = .ok (.invokespecial 5, 3) := by decide +kernel
theorem dX9_init_4 : decode cX9_init 4 = .ok (.aload_n 0, 1) := by decide +kernel
theorem dX9_init_5 : decode cX9_init 5 = .ok (.sipush 300, 3) := by decide +kernel
theorem dX9_init_8 : decode cX9_init 8 = .ok (.newarray .int, 2) := by decide +kernel
theorem dX9_init_10 : decode cX9_init 10 = .ok (.putfield 13, 3) := by decide +kernel
theorem dX9_init_13 : decode cX9_init 13 = .ok (.return_, 1) := by decide +kernel
theorem dX8_init_0 : decode cX8_init 0 = .ok (.aload_n 0, 1) := by decide +kernel
theorem dX8_init_1 : decode cX8_init 1 = .ok (.invokespecial 3, 3) := by decide +kernel
theorem dX8_init_4 : decode cX8_init 4 = .ok (.aload_n 0, 1) := by decide +kernel
theorem dX8_init_5 : decode cX8_init 5 = .ok (.sipush 256, 3) := by decide +kernel
theorem dX8_init_8 : decode cX8_init 8 = .ok (.newarray .int, 2) := by decide +kernel
theorem dX8_init_10 : decode cX8_init 10 = .ok (.putfield 9, 3) := by decide +kernel
theorem dX8_init_13 : decode cX8_init 13 = .ok (.aload_n 0, 1) := by decide +kernel
theorem dX8_init_14 : decode cX8_init 14 = .ok (.iconst 1, 1) := by decide +kernel
theorem dX8_init_15 : decode cX8_init 15 = .ok (.putfield 15, 3) := by decide +kernel
theorem dX8_init_18 : decode cX8_init 18 = .ok (.aload_n 0, 1) := by decide +kernel
theorem dX8_init_19 : decode cX8_init 19 = .ok (.iconst 1, 1) := by decide +kernel
theorem dX8_init_20 : decode cX8_init 20 = .ok (.putfield 19, 3) := by decide +kernel
theorem dX8_init_23 : decode cX8_init 23 = .ok (.return_, 1) := by decide +kernel
theorem dX6_init_0 : decode cX6_init 0 = .ok (.aload_n 0, 1) := by decide +kernel
theorem dX6_init_1 : decode cX6_init 1 = .ok (.invokespecial 3, 3) := by decide +kernel
theorem dX6_init_4 : decode cX6_init 4 = .ok (.aload_n 0, 1) := by decide +kernel
theorem dX6_init_5 : decode cX6_init 5 = .ok (.new 9, 3) := by decide +kernel
theorem dX6_init_8 : decode cX6_init 8 = .ok (.dup, 1) := by decide +kernel
theorem dX6_init_9 : decode cX6_init 9 = .ok (.invokespecial 11, 3) := by decide +kernel
theorem dX6_init_12 : decode cX6_init 12 = .ok (.putfield 12, 3) := by decide +kernel
theorem dX6_init_15 : decode cX6_init 15 = .ok (.aload_n 0, 1) := by decide +kernel
theorem dX6_init_16 : decode cX6_init 16 = .ok (.iconst 5, 1) := by decide +kernel
theorem dX6_init_17 : decode cX6_init 17 = .ok (.newarray .int, 2) := by decide +kernel
theorem dX6_init_19 : decode cX6_init 19 = .ok (.putfield 18, 3) := by decide +kernel
theorem dX6_init_22 : decode cX6_init 22 = .ok (.aload_n 0, 1) := by decide +kernel
theorem dX6_init_23 : decode cX6_init 23 = .ok (.bipush 16, 2) := by decide +kernel
theorem dX6_init_25 : decode cX6_init 25 = .ok (.newarray .int, 2) := by decide +kernel
theorem dX6_init_27 : decode cX6_init 27 = .ok (.putfield 22, 3) := by decide +kernel
theorem dX6_init_30 : decode cX6_init 30 = .ok (.aload_n 0, 1) := by decide +kernel
theorem dX6_init_31 : decode cX6_init 31 = .ok (.sipush 256, 3) := by decide +kernel
theorem dX6_init_34 : decode cX6_init 34 = .ok (.newarray .int, 2) := by decide +kernel
theorem dX6_init_36 : decode cX6_init 36 = .ok (.putfield 25, 3) := by decide +kernel
theorem dX6_init_39 : decode cX6_init 39 = .ok (.aload_n 0, 1) := by decide +kernel
theorem dX6_init_40 : decode cX6_init 40 = .ok (.sipush 256, 3) := by decide +kernel
theorem dX6_init_43 : decode cX6_init 43 = .ok (.newarray .int, 2) := by decide +kernel
theorem dX6_init_45 : decode cX6_init 45 = .ok (.putfield 28, 3) := by decide +kernel
theorem dX6_init_48 : decode cX6_init 48 = .ok (.return_, 1) := by decide +kernel
theorem dX7_goesOn_7 : decode cX7_goesOn 7 = .ok (.aload_n 0, 1) := by decide +kernel
theorem dX7_goesOn_8 : decode cX7_goesOn 8 = .ok (.getfield 35, 3) := by decide +kernel
theorem dX7_goesOn_11 : decode cX7_goesOn 11 = .ok (.ifCond .eq 7, 3) := by decide +kernel
theorem dX9_tell_0 : decode cX9_tell 0 = .ok (.aload_n 1, 1) := by decide +kernel
theorem dX9_tell_1 : decode cX9_tell 1 = .ok (.invokevirtual 30, 3) := by decide +kernel
theorem dX9_tell_4 : decode cX9_tell 4 = .ok (.aload_n 0, 1) := by decide +kernel
theorem dX9_tell_5 : decode cX9_tell 5 = .ok (.iconst 0, 1) := by decide +kernel
theorem dX9_tell_6 : decode cX9_tell 6 = .ok (.putfield 23, 3) := by decide +kernel
theorem dX9_tell_9 : decode cX9_tell 9 = .ok (.aload_n 0, 1) := by decide +kernel
theorem dX9_tell_10 : decode cX9_tell 10 = .ok (.iconst 0, 1) := by decide +kernel
theorem dX9_tell_11 : decode cX9_tell 11 = .ok (.putfield 27, 3) := by decide +kernel
theorem dX9_tell_14 : decode cX9_tell 14 = .ok (.iconst 0, 1) := by decide +kernel
theorem dX9_tell_15 : decode cX9_tell 15 = .ok (.istore_n 2, 1) := by decide +kernel
theorem dX9_tell_16 : decode cX9_tell 16 = .ok (.iload_n 2, 1) := by decide +kernel
theorem dX9_tell_17 : decode cX9_tell 17 = .ok (.bipush 12, 2) := by decide +kernel
theorem dX9_tell_19 : decode cX9_tell 19 = .ok (.if_icmp .gt 51, 3) := by decide +kernel
