theorem dX12_in_0 : decode cX12_in 0 = .ok (.lload_n 0, 1) := by decide +kernel
theorem dX12_in_1 : decode cX12_in 1 = .ok (.lload_n 2, 1) := by decide +kernel
theorem dX12_in_2 : decode cX12_in 2 = .ok (.lcmp, 1) := by decide +kernel
theorem dX12_in_3 : decode cX12_in 3 = .ok (.ifCond .lt 14, 3) := by decide +kernel
theorem dX12_in_17 : decode cX12_in 17 = .ok (.iconst 0, 1) := by decide +kernel
theorem dX12_in_18 : decode cX12_in 18 = .ok (.ireturn, 1) := by decide +kernel
theorem dX12_in_6 : decode cX12_in 6 = .ok (.lload_n 0, 1) := by decide +kernel
theorem dX12_in_7 : decode cX12_in 7 = .ok (.lload 4, 2) := by decide +kernel
theorem dX12_in_9 : decode cX12_in 9 = .ok (.lcmp, 1) := by decide +kernel
theorem dX12_in_10 : decode cX12_in 10 = .ok (.ifCond .gt 7, 3) := by decide +kernel
theorem dX12_in_13 : decode cX12_in 13 = .ok (.iconst 1, 1) := by decide +kernel
theorem dX12_in_14 : decode cX12_in 14 = .ok (.goto 4, 3) := by decide +kernel
theorem dX12_rows_0 : decode cX12_rows 0 = .ok (.aload_n 0, 1) := by decide +kernel
theorem dX12_rows_1 : decode cX12_rows 1 = .ok (.getfield 13, 3) := by decide +kernel
theorem dX12_rows_4 : decode cX12_rows 4 = .ok (.iconst 0, 1) := by decide +kernel
theorem dX12_rows_5 : decode cX12_rows 5 = .ok (.iaload, 1) := by decide +kernel
theorem dX12_rows_6 : decode cX12_rows 6 = .ok (.ireturn, 1) := by decide +kernel
theorem dX12_wide_0 : decode cX12_wide 0 = .ok (.aload_n 0, 1) := by decide +kernel
theorem dX12_wide_1 : decode cX12_wide 1 = .ok (.getfield 13, 3) := by decide +kernel
theorem dX12_wide_4 : decode cX12_wide 4 = .ok (.iconst 1, 1) := by decide +kernel
theorem dX12_wide_5 : decode cX12_wide 5 = .ok (.iaload, 1) := by decide +kernel
theorem dX12_wide_6 : decode cX12_wide 6 = .ok (.ireturn, 1) := by decide +kernel
theorem dX12_area_0 : decode cX12_area 0 = .ok (.aload_n 0, 1) := by decide +kernel
theorem dX12_area_1 : decode cX12_area 1 = .ok (.invokevirtual 83, 3) := by decide +kernel
theorem dX12_area_4 : decode cX12_area 4 = .ok (.aload_n 0, 1) := by decide +kernel
theorem dX12_area_5 : decode cX12_area 5 = .ok (.invokevirtual 87, 3) := by decide +kernel
theorem dX12_area_8 : decode cX12_area 8 = .ok (.imul, 1) := by decide +kernel
theorem dX12_area_9 : decode cX12_area 9 = .ok (.ireturn, 1) := by decide +kernel
theorem dX12_hasPattern_0 : decode cX12_hasPattern 0 = .ok (.aload_n 0, 1) := by decide +kernel
theorem dX12_hasPattern_1 : decode cX12_hasPattern 1 = .ok (.invokevirtual 83, 3) := by decide +kernel
theorem dX12_hasPattern_4 : decode cX12_hasPattern 4 = .ok (.ifCond .le 7, 3) := by decide +kernel
theorem dX12_hasPattern_11 : decode cX12_hasPattern 11 = .ok (.iconst 0, 1) := by decide +kernel
theorem dX12_hasPattern_12 : decode cX12_hasPattern 12 = .ok (.ireturn, 1) := by decide +kernel
theorem dX12_hasPattern_7 : decode cX12_hasPattern 7 = .ok (.iconst 1, 1) := by decide +kernel
theorem dX12_hasPattern_8 : decode cX12_hasPattern 8 = .ok (.goto 4, 3) := by decide +kernel
theorem dX12_isCloth_0 : decode cX12_isCloth 0 = .ok (.iload_n 0, 1) := by decide +kernel
theorem dX12_isCloth_1 : decode cX12_isCloth 1 = .ok (.i2l, 1) := by decide +kernel
theorem dX12_isCloth_2 : decode cX12_isCloth 2 = .ok (.lconst 0, 1) := by decide +kernel
theorem dX12_isCloth_3 : decode cX12_isCloth 3 = .ok (.ldc2_w 90, 3) := by decide +kernel
theorem dX12_isCloth_6 : decode cX12_isCloth 6 = .ok (.invokestatic 79, 3) := by decide +kernel
theorem dX12_isCloth_9 : decode cX12_isCloth 9 = .ok (.ireturn, 1) := by decide +kernel
theorem dX12_isThere_0 : decode cX12_isThere 0 = .ok (.aload_n 0, 1) := by decide +kernel
theorem dX12_isThere_1 : decode cX12_isThere 1 = .ok (.getfield 13, 3) := by decide +kernel
theorem dX12_isThere_4 : decode cX12_isThere 4 = .ok (.sipush 1048, 3) := by decide +kernel
theorem dX12_isThere_7 : decode cX12_isThere 7 = .ok (.sipush 257, 3) := by decide +kernel
theorem dX12_isThere_10 : decode cX12_isThere 10 = .ok (.iload_n 1, 1) := by decide +kernel
theorem dX12_isThere_11 : decode cX12_isThere 11 = .ok (.imul, 1) := by decide +kernel
theorem dX12_isThere_12 : decode cX12_isThere 12 = .ok (.iadd, 1) := by decide +kernel
theorem dX12_isThere_13 : decode cX12_isThere 13 = .ok (.iaload, 1) := by decide +kernel
theorem dX12_isThere_14 : decode cX12_isThere 14 = .ok (.iconst 1, 1) := by decide +kernel
theorem dX12_isThere_15 : decode cX12_isThere 15 = .ok (.if_icmp .ne 7, 3) := by decide +kernel
theorem dX12_isThere_22 : decode cX12_isThere 22 = .ok (.iconst 0, 1) := by decide +kernel
theorem dX12_isThere_23 : decode cX12_isThere 23 = .ok (.ireturn, 1) := by decide +kernel
theorem dX12_isThere_18 : decode cX12_isThere 18 = .ok (.iconst 1, 1) := by decide +kernel
theorem dX12_isThere_19 : decode cX12_isThere 19 = .ok (.goto 4, 3) := by decide +kernel
theorem dX12_isWay_0 : decode cX12_isWay 0 = .ok (.iload_n 0, 1) := by decide +kernel
theorem dX12_isWay_1 : decode cX12_isWay 1 = .ok (.i2l, 1) := by decide +kernel
theorem dX12_isWay_2 : decode cX12_isWay 2 = .ok (.lconst 0, 1) := by decide +kernel
theorem dX12_isWay_3 : decode cX12_isWay 3 = .ok (.ldc2_w 92, 3) := by decide +kernel
theorem dX12_isWay_6 : decode cX12_isWay 6 = .ok (.invokestatic 79, 3) := by decide +kernel
theorem dX12_isWay_9 : decode cX12_isWay 9 = .ok (.ireturn, 1) := by decide +kernel
theorem dX12_isSlot_0 : decode cX12_isSlot 0 = .ok (.iload_n 0, 1) := by decide +kernel
theorem dX12_isSlot_1 : decode cX12_isSlot 1 = .ok (.i2l, 1) := by decide +kernel
theorem dX12_isSlot_2 : decode cX12_isSlot 2 = .ok (.lconst 0, 1) := by decide +kernel
theorem dX12_isSlot_3 : decode cX12_isSlot 3 = .ok (.ldc2_w 90, 3) := by decide +kernel
theorem dX12_isSlot_6 : decode cX12_isSlot 6 = .ok (.invokestatic 79, 3) := by decide +kernel
theorem dX12_isSlot_9 : decode cX12_isSlot 9 = .ok (.ireturn, 1) := by decide +kernel
theorem dX12_isSeed_0 : decode cX12_isSeed 0 = .ok (.iload_n 0, 1) := by decide +kernel
theorem dX12_isSeed_1 : decode cX12_isSeed 1 = .ok (.i2l, 1) := by decide +kernel
theorem dX12_isSeed_2 : decode cX12_isSeed 2 = .ok (.lconst 0, 1) := by decide +kernel
theorem dX12_isSeed_3 : decode cX12_isSeed 3 = .ok (.ldc2_w 317, 3) := by decide +kernel
theorem dX12_isSeed_6 : decode cX12_isSeed 6 = .ok (.invokestatic 79, 3) := by decide +kernel
theorem dX12_isSeed_9 : decode cX12_isSeed 9 = .ok (.ireturn, 1) := by decide +kernel
theorem dX12_ofWay_0 : decode cX12_ofWay 0 = .ok (.aload_n 0, 1) := by decide +kernel
theorem dX12_ofWay_1 : decode cX12_ofWay 1 = .ok (.getfield 13, 3) := by decide +kernel
theorem dX12_ofWay_4 : decode cX12_ofWay 4 = .ok (.bipush 120, 2) := by decide +kernel
theorem dX12_ofWay_6 : decode cX12_ofWay 6 = .ok (.bipush 7, 2) := by decide +kernel
theorem dX12_ofWay_8 : decode cX12_ofWay 8 = .ok (.iload_n 1, 1) := by decide +kernel
theorem dX12_ofWay_9 : decode cX12_ofWay 9 = .ok (.imul, 1) := by decide +kernel
theorem dX12_ofWay_10 : decode cX12_ofWay 10 = .ok (.iadd, 1) := by decide +kernel
theorem dX12_ofWay_11 : decode cX12_ofWay 11 = .ok (.iload_n 2, 1) := by decide +kernel
theorem dX12_ofWay_12 : decode cX12_ofWay 12 = .ok (.iadd, 1) := by decide +kernel
theorem dX12_ofWay_13 : decode cX12_ofWay 13 = .ok (.iaload, 1) := by decide +kernel
theorem dX12_ofWay_14 : decode cX12_ofWay 14 = .ok (.ireturn, 1) := by decide +kernel
theorem dX12_isTold_0 : decode cX12_isTold 0 = .ok (.aload_n 0, 1) := by decide +kernel
theorem dX12_isTold_1 : decode cX12_isTold 1 = .ok (.iload_n 1, 1) := by decide +kernel
theorem dX12_isTold_2 : decode cX12_isTold 2 = .ok (.iconst 0, 1) := by decide +kernel
theorem dX12_isTold_3 : decode cX12_isTold 3 = .ok (.invokevirtual 94, 3) := by decide +kernel
theorem dX12_isTold_6 : decode cX12_isTold 6 = .ok (.iconst 1, 1) := by decide +kernel
theorem dX12_isTold_7 : decode cX12_isTold 7 = .ok (.if_icmp .ne 7, 3) := by decide +kernel
theorem dX12_isTold_14 : decode cX12_isTold 14 = .ok (.iconst 0, 1) := by decide +kernel
theorem dX12_isTold_15 : decode cX12_isTold 15 = .ok (.ireturn, 1) := by decide +kernel
theorem dX12_isTold_10 : decode cX12_isTold 10 = .ok (.iconst 1, 1) := by decide +kernel
theorem dX12_isTold_11 : decode cX12_isTold 11 = .ok (.goto 4, 3) := by decide +kernel
theorem dX12_sortOf_0 : decode cX12_sortOf 0 = .ok (.iload_n 1, 1) := by decide +kernel
theorem dX12_sortOf_1 : decode cX12_sortOf 1 = .ok (.aload_n 0, 1) := by decide +kernel
theorem dX12_sortOf_2 : decode cX12_sortOf 2 = .ok (.invokevirtual 87, 3) := by decide +kernel
theorem dX12_sortOf_5 : decode cX12_sortOf 5 = .ok (.idiv, 1) := by decide +kernel
theorem dX12_sortOf_6 : decode cX12_sortOf 6 = .ok (.aload_n 0, 1) := by decide +kernel
theorem dX12_sortOf_7 : decode cX12_sortOf 7 = .ok (.getfield 13, 3) := by decide +kernel
theorem dX12_sortOf_10 : decode cX12_sortOf 10 = .ok (.iconst 2, 1) := by decide +kernel
theorem dX12_sortOf_11 : decode cX12_sortOf 11 = .ok (.iaload, 1) := by decide +kernel
theorem dX12_sortOf_12 : decode cX12_sortOf 12 = .ok (.irem, 1) := by decide +kernel
theorem dX12_sortOf_13 : decode cX12_sortOf 13 = .ok (.istore_n 2, 1) := by decide +kernel
theorem dX12_sortOf_14 : decode cX12_sortOf 14 = .ok (.bipush 16, 2) := by decide +kernel
theorem dX12_sortOf_16 : decode cX12_sortOf 16 = .ok (.bipush 13, 2) := by decide +kernel
theorem dX12_sortOf_18 : decode cX12_sortOf 18 = .ok (.iload_n 2, 1) := by decide +kernel
theorem dX12_sortOf_19 : decode cX12_sortOf 19 = .ok (.imul, 1) := by decide +kernel
theorem dX12_sortOf_20 : decode cX12_sortOf 20 = .ok (.iadd, 1) := by decide +kernel
theorem dX12_sortOf_21 : decode cX12_sortOf 21 = .ok (.istore_n 3, 1) := by decide +kernel
theorem dX12_sortOf_22 : decode cX12_sortOf 22 = .ok (.aload_n 0, 1) := by decide +kernel
theorem dX12_sortOf_23 : decode cX12_sortOf 23 = .ok (.getfield 13, 3) := by decide +kernel
theorem dX12_sortOf_26 : decode cX12_sortOf 26 = .ok (.iload_n 3, 1) := by decide +kernel
theorem dX12_sortOf_27 : decode cX12_sortOf 27 = .ok (.iconst 1, 1) := by decide +kernel
theorem dX12_sortOf_28 : decode cX12_sortOf 28 = .ok (.iadd, 1) := by decide +kernel
theorem dX12_sortOf_29 : decode cX12_sortOf 29 = .ok (.iload_n 1, 1) := by decide +kernel
theorem dX12_sortOf_30 : decode cX12_sortOf 30 = .ok (.aload_n 0, 1) := by decide +kernel
theorem dX12_sortOf_31 : decode cX12_sortOf 31 = .ok (.invokevirtual 87, 3) := by decide +kernel
theorem dX12_sortOf_34 : decode cX12_sortOf 34 = .ok (.irem, 1) := by decide +kernel
theorem dX12_sortOf_35 : decode cX12_sortOf 35 = .ok (.aload_n 0, 1) := by decide +kernel
theorem dX12_sortOf_36 : decode cX12_sortOf 36 = .ok (.getfield 13, 3) := by decide +kernel
theorem dX12_sortOf_39 : decode cX12_sortOf 39 = .ok (.iload_n 3, 1) := by decide +kernel
theorem dX12_sortOf_40 : decode cX12_sortOf 40 = .ok (.iaload, 1) := by decide +kernel
theorem dX12_sortOf_41 : decode cX12_sortOf 41 = .ok (.irem, 1) := by decide +kernel
theorem dX12_sortOf_42 : decode cX12_sortOf 42 = .ok (.iadd, 1) := by decide +kernel
theorem dX12_sortOf_43 : decode cX12_sortOf 43 = .ok (.iaload, 1) := by decide +kernel
theorem dX12_sortOf_44 : decode cX12_sortOf 44 = .ok (.ireturn, 1) := by decide +kernel
theorem dX12_isFree_0 : decode cX12_isFree 0 = .ok (.aload_n 0, 1) := by decide +kernel
theorem dX12_isFree_1 : decode cX12_isFree 1 = .ok (.iload_n 1, 1) := by decide +kernel
theorem dX12_isFree_2 : decode cX12_isFree 2 = .ok (.invokevirtual 98, 3) := by decide +kernel
theorem dX12_isFree_5 : decode cX12_isFree 5 = .ok (.iconst 1, 1) := by decide +kernel
theorem dX12_isFree_6 : decode cX12_isFree 6 = .ok (.if_icmp .le 7, 3) := by decide +kernel
theorem dX12_isFree_13 : decode cX12_isFree 13 = .ok (.iconst 0, 1) := by decide +kernel
theorem dX12_isFree_14 : decode cX12_isFree 14 = .ok (.ireturn, 1) := by decide +kernel
theorem dX12_isFree_9 : decode cX12_isFree 9 = .ok (.iconst 1, 1) := by decide +kernel
theorem dX12_isFree_10 : decode cX12_isFree 10 = .ok (.goto 4, 3) := by decide +kernel
theorem dX12_turnedOf_0 : decode cX12_turnedOf 0 = .ok (.aload_n 0, 1) := by decide +kernel
theorem dX12_turnedOf_1 : decode cX12_turnedOf 1 = .ok (.iload_n 1, 1) := by decide +kernel
theorem dX12_turnedOf_2 : decode cX12_turnedOf 2 = .ok (.invokevirtual 98, 3) := by decide +kernel
theorem dX12_turnedOf_5 : decode cX12_turnedOf 5 = .ok (.iconst 1, 1) := by decide +kernel
theorem dX12_turnedOf_6 : decode cX12_turnedOf 6 = .ok (.isub, 1) := by decide +kernel
theorem dX12_turnedOf_7 : decode cX12_turnedOf 7 = .ok (.ireturn, 1) := by decide +kernel
theorem dX12_stands_0 : decode cX12_stands 0 = .ok (.aload_n 0, 1) := by decide +kernel
theorem dX12_stands_1 : decode cX12_stands 1 = .ok (.getfield 13, 3) := by decide +kernel
theorem dX12_stands_4 : decode cX12_stands 4 = .ok (.sipush 1048, 3) := by decide +kernel
theorem dX12_stands_7 : decode cX12_stands 7 = .ok (.sipush 257, 3) := by decide +kernel
theorem dX12_stands_10 : decode cX12_stands 10 = .ok (.iload_n 1, 1) := by decide +kernel
theorem dX12_stands_11 : decode cX12_stands 11 = .ok (.imul, 1) := by decide +kernel
theorem dX12_stands_12 : decode cX12_stands 12 = .ok (.iadd, 1) := by decide +kernel
theorem dX12_stands_13 : decode cX12_stands 13 = .ok (.iconst 1, 1) := by decide +kernel
theorem dX12_stands_14 : decode cX12_stands 14 = .ok (.iadd, 1) := by decide +kernel
theorem dX12_stands_15 : decode cX12_stands 15 = .ok (.iload_n 2, 1) := by decide +kernel
theorem dX12_stands_16 : decode cX12_stands 16 = .ok (.iadd, 1) := by decide +kernel
theorem dX12_stands_17 : decode cX12_stands 17 = .ok (.iaload, 1) := by decide +kernel
theorem dX12_stands_18 : decode cX12_stands 18 = .ok (.ireturn, 1) := by decide +kernel
theorem dX12_takes0_0 : decode cX12_takes0 0 = .ok (.iconst 0, 1) := by decide +kernel
theorem dX12_takes0_1 : decode cX12_takes0 1 = .ok (.istore_n 2, 1) := by decide +kernel
theorem dX12_takes0_2 : decode cX12_takes0 2 = .ok (.iload_n 2, 1) := by decide +kernel
theorem dX12_takes0_3 : decode cX12_takes0 3 = .ok (.sipush 256, 3) := by decide +kernel
theorem dX12_takes0_6 : decode cX12_takes0 6 = .ok (.if_icmp .ge 21, 3) := by decide +kernel
theorem dX12_takes0_27 : decode cX12_takes0 27 = .ok (.return_, 1) := by decide +kernel
theorem dX12_takes0_9 : decode cX12_takes0 9 = .ok (.aload_n 0, 1) := by decide +kernel
theorem dX12_takes0_10 : decode cX12_takes0 10 = .ok (.getfield 37, 3) := by decide +kernel
theorem dX12_takes0_13 : decode cX12_takes0 13 = .ok (.iload_n 2, 1) := by decide +kernel
theorem dX12_takes0_14 : decode cX12_takes0 14 = .ok (.aload_n 0, 1) := by decide +kernel
theorem dX12_takes0_15 : decode cX12_takes0 15 = .ok (.iload_n 1, 1) := by decide +kernel
theorem dX12_takes0_16 : decode cX12_takes0 16 = .ok (.iload_n 2, 1) := by decide +kernel
theorem dX12_takes0_17 : decode cX12_takes0 17 = .ok (.invokevirtual 301, 3) := by decide +kernel
theorem dX12_takes0_20 : decode cX12_takes0 20 = .ok (.iastore, 1) := by decide +kernel
theorem dX12_takes0_21 : decode cX12_takes0 21 = .ok (.iinc 2 1, 3) := by decide +kernel
theorem dX12_takes0_24 : decode cX12_takes0 24 = .ok (.goto (-22), 3) := by decide +kernel
theorem dX12_gives_0 : decode cX12_gives 0 = .ok (.aload_n 0, 1) := by decide +kernel
theorem dX12_gives_1 : decode cX12_gives 1 = .ok (.getfield 13, 3) := by decide +kernel
theorem dX12_gives_4 : decode cX12_gives 4 = .ok (.sipush 1048, 3) := by decide +kernel
theorem dX12_gives_7 : decode cX12_gives 7 = .ok (.sipush 257, 3) := by decide +kernel
theorem dX12_gives_10 : decode cX12_gives 10 = .ok (.iload_n 1, 1) := by decide +kernel
theorem dX12_gives_11 : decode cX12_gives 11 = .ok (.imul, 1) := by decide +kernel
theorem dX12_gives_12 : decode cX12_gives 12 = .ok (.iadd, 1) := by decide +kernel
theorem dX12_gives_13 : decode cX12_gives 13 = .ok (.iconst 1, 1) := by decide +kernel
theorem dX12_gives_14 : decode cX12_gives 14 = .ok (.iastore, 1) := by decide +kernel
theorem dX12_gives_15 : decode cX12_gives 15 = .ok (.iconst 0, 1) := by decide +kernel
theorem dX12_gives_16 : decode cX12_gives 16 = .ok (.istore_n 2, 1) := by decide +kernel
theorem dX12_gives_17 : decode cX12_gives 17 = .ok (.iload_n 2, 1) := by decide +kernel
theorem dX12_gives_18 : decode cX12_gives 18 = .ok (.sipush 256, 3) := by decide +kernel
theorem dX12_gives_21 : decode cX12_gives 21 = .ok (.if_icmp .ge 33, 3) := by decide +kernel
theorem dX12_gives_54 : decode cX12_gives 54 = .ok (.return_, 1) := by decide +kernel
theorem dX12_gives_24 : decode cX12_gives 24 = .ok (.aload_n 0, 1) := by decide +kernel
theorem dX12_gives_25 : decode cX12_gives 25 = .ok (.getfield 13, 3) := by decide +kernel
theorem dX12_gives_28 : decode cX12_gives 28 = .ok (.sipush 1048, 3) := by decide +kernel
theorem dX12_gives_31 : decode cX12_gives 31 = .ok (.sipush 257, 3) := by decide +kernel
theorem dX12_gives_34 : decode cX12_gives 34 = .ok (.iload_n 1, 1) := by decide +kernel
theorem dX12_gives_35 : decode cX12_gives 35 = .ok (.imul, 1) := by decide +kernel
theorem dX12_gives_36 : decode cX12_gives 36 = .ok (.iadd, 1) := by decide +kernel
theorem dX12_gives_37 : decode cX12_gives 37 = .ok (.iconst 1, 1) := by decide +kernel
theorem dX12_gives_38 : decode cX12_gives 38 = .ok (.iadd, 1) := by decide +kernel
theorem dX12_gives_39 : decode cX12_gives 39 = .ok (.iload_n 2, 1) := by decide +kernel
theorem dX12_gives_40 : decode cX12_gives 40 = .ok (.iadd, 1) := by decide +kernel
theorem dX12_gives_41 : decode cX12_gives 41 = .ok (.aload_n 0, 1) := by decide +kernel
theorem dX12_gives_42 : decode cX12_gives 42 = .ok (.getfield 37, 3) := by decide +kernel
theorem dX12_gives_45 : decode cX12_gives 45 = .ok (.iload_n 2, 1) := by decide +kernel
theorem dX12_gives_46 : decode cX12_gives 46 = .ok (.iaload, 1) := by decide +kernel
theorem dX12_gives_47 : decode cX12_gives 47 = .ok (.iastore, 1) := by decide +kernel
theorem dX12_gives_48 : decode cX12_gives 48 = .ok (.iinc 2 1, 3) := by decide +kernel
theorem dX12_gives_51 : decode cX12_gives 51 = .ok (.goto (-34), 3) := by decide +kernel
theorem dX12_knits_0 : decode cX12_knits 0 = .ok (.lload_n 1, 1) := by decide +kernel
theorem dX12_knits_1 : decode cX12_knits 1 = .ok (.lstore_n 3, 1) := by decide +kernel
theorem dX12_knits_2 : decode cX12_knits 2 = .ok (.iconst 0, 1) := by decide +kernel
theorem dX12_knits_3 : decode cX12_knits 3 = .ok (.istore 5, 2) := by decide +kernel
theorem dX12_knits_5 : decode cX12_knits 5 = .ok (.iconst 0, 1) := by decide +kernel
theorem dX12_knits_6 : decode cX12_knits 6 = .ok (.istore 6, 2) := by decide +kernel
theorem dX12_knits_8 : decode cX12_knits 8 = .ok (.iload 6, 2) := by decide +kernel
theorem dX12_knits_10 : decode cX12_knits 10 = .ok (.aload_n 0, 1) := by decide +kernel
theorem dX12_knits_11 : decode cX12_knits 11 = .ok (.invokevirtual 203, 3) := by decide +kernel
theorem dX12_knits_14 : decode cX12_knits 14 = .ok (.if_icmp .ge 110, 3) := by decide +kernel
theorem dX12_knits_124 : decode cX12_knits 124 = .ok (.iload 5, 2) := by decide +kernel
theorem dX12_knits_126 : decode cX12_knits 126 = .ok (.ireturn, 1) := by decide +kernel
theorem dX12_knits_17 : decode cX12_knits 17 = .ok (.aload_n 0, 1) := by decide +kernel
theorem dX12_knits_18 : decode cX12_knits 18 = .ok (.getfield 37, 3) := by decide +kernel
theorem dX12_knits_21 : decode cX12_knits 21 = .ok (.iload 6, 2) := by decide +kernel
theorem dX12_knits_23 : decode cX12_knits 23 = .ok (.aload_n 0, 1) := by decide +kernel
theorem dX12_knits_24 : decode cX12_knits 24 = .ok (.iload 6, 2) := by decide +kernel
theorem dX12_knits_26 : decode cX12_knits 26 = .ok (.invokevirtual 206, 3) := by decide +kernel
theorem dX12_knits_42 : decode cX12_knits 42 = .ok (.iastore, 1) := by decide +kernel
theorem dX12_knits_43 : decode cX12_knits 43 = .ok (.aload_n 0, 1) := by decide +kernel
theorem dX12_knits_44 : decode cX12_knits 44 = .ok (.iload 6, 2) := by decide +kernel
theorem dX12_knits_46 : decode cX12_knits 46 = .ok (.invokevirtual 206, 3) := by decide +kernel
theorem dX12_knits_49 : decode cX12_knits 49 = .ok (.ifCond .ne 6, 3) := by decide +kernel
theorem dX12_knits_55 : decode cX12_knits 55 = .ok (.ldc2_w 304, 3) := by decide +kernel
theorem dX12_knits_58 : decode cX12_knits 58 = .ok (.lload_n 3, 1) := by decide +kernel
theorem dX12_knits_59 : decode cX12_knits 59 = .ok (.lmul, 1) := by decide +kernel
theorem dX12_knits_60 : decode cX12_knits 60 = .ok (.ldc2_w 306, 3) := by decide +kernel
theorem dX12_knits_63 : decode cX12_knits 63 = .ok (.ladd, 1) := by decide +kernel
theorem dX12_knits_64 : decode cX12_knits 64 = .ok (.ldc2_w 308, 3) := by decide +kernel
theorem dX12_knits_67 : decode cX12_knits 67 = .ok (.lrem, 1) := by decide +kernel
theorem dX12_knits_68 : decode cX12_knits 68 = .ok (.lstore_n 3, 1) := by decide +kernel
theorem dX12_knits_69 : decode cX12_knits 69 = .ok (.lload_n 3, 1) := by decide +kernel
theorem dX12_knits_70 : decode cX12_knits 70 = .ok (.ldc2_w 310, 3) := by decide +kernel
theorem dX12_knits_73 : decode cX12_knits 73 = .ok (.ldiv, 1) := by decide +kernel
theorem dX12_knits_74 : decode cX12_knits 74 = .ok (.ldc2_w 312, 3) := by decide +kernel
theorem dX12_knits_77 : decode cX12_knits 77 = .ok (.lrem, 1) := by decide +kernel
theorem dX12_knits_78 : decode cX12_knits 78 = .ok (.aload_n 0, 1) := by decide +kernel
theorem dX12_knits_79 : decode cX12_knits 79 = .ok (.getfield 13, 3) := by decide +kernel
theorem dX12_knits_82 : decode cX12_knits 82 = .ok (.bipush 10, 2) := by decide +kernel
theorem dX12_knits_84 : decode cX12_knits 84 = .ok (.aload_n 0, 1) := by decide +kernel
theorem dX12_knits_85 : decode cX12_knits 85 = .ok (.iload 6, 2) := by decide +kernel
theorem dX12_knits_87 : decode cX12_knits 87 = .ok (.invokevirtual 98, 3) := by decide +kernel
theorem dX12_knits_90 : decode cX12_knits 90 = .ok (.iadd, 1) := by decide +kernel
theorem dX12_knits_91 : decode cX12_knits 91 = .ok (.iconst 2, 1) := by decide +kernel
theorem dX12_knits_92 : decode cX12_knits 92 = .ok (.isub, 1) := by decide +kernel
theorem dX12_knits_93 : decode cX12_knits 93 = .ok (.iaload, 1) := by decide +kernel
theorem dX12_knits_94 : decode cX12_knits 94 = .ok (.i2l, 1) := by decide +kernel
theorem dX12_knits_95 : decode cX12_knits 95 = .ok (.lcmp, 1) := by decide +kernel
theorem dX12_knits_96 : decode cX12_knits 96 = .ok (.ifCond .lt 6, 3) := by decide +kernel
theorem dX12_knits_102 : decode cX12_knits 102 = .ok (.aload_n 0, 1) := by decide +kernel
theorem dX12_knits_103 : decode cX12_knits 103 = .ok (.getfield 37, 3) := by decide +kernel
theorem dX12_knits_106 : decode cX12_knits 106 = .ok (.iload 6, 2) := by decide +kernel
theorem dX12_knits_108 : decode cX12_knits 108 = .ok (.aload_n 0, 1) := by decide +kernel
theorem dX12_knits_109 : decode cX12_knits 109 = .ok (.iload 6, 2) := by decide +kernel
theorem dX12_knits_111 : decode cX12_knits 111 = .ok (.invokevirtual 314, 3) := by decide +kernel
theorem dX12_knits_114 : decode cX12_knits 114 = .ok (.iastore, 1) := by decide +kernel
theorem dX12_knits_115 : decode cX12_knits 115 = .ok (.iinc 5 1, 3) := by decide +kernel
theorem dX12_knits_118 : decode cX12_knits 118 = .ok (.iinc 6 1, 3) := by decide +kernel
theorem dX12_knits_121 : decode cX12_knits 121 = .ok (.goto (-113), 3) := by decide +kernel
theorem dX12_knits_99 : decode cX12_knits 99 = .ok (.goto 19, 3) := by decide +kernel
theorem dX12_knits_52 : decode cX12_knits 52 = .ok (.goto 66, 3) := by decide +kernel
theorem dX12_knits_29 : decode cX12_knits 29 = .ok (.ifCond .eq 7, 3) := by decide +kernel
theorem dX12_knits_36 : decode cX12_knits 36 = .ok (.aload_n 0, 1) := by decide +kernel
theorem dX12_knits_37 : decode cX12_knits 37 = .ok (.iload 6, 2) := by decide +kernel
theorem dX12_knits_39 : decode cX12_knits 39 = .ok (.invokevirtual 98, 3) := by decide +kernel
theorem dX12_knits_32 : decode cX12_knits 32 = .ok (.iconst 0, 1) := by decide +kernel
theorem dX12_knits_33 : decode cX12_knits 33 = .ok (.goto 9, 3) := by decide +kernel
theorem dX12_lists_0 : decode cX12_lists 0 = .ok (.aload_n 0, 1) := by decide +kernel
theorem dX12_lists_1 : decode cX12_lists 1 = .ok (.iconst 0, 1) := by decide +kernel
theorem dX12_lists_2 : decode cX12_lists 2 = .ok (.putfield 335, 3) := by decide +kernel
theorem dX12_lists_5 : decode cX12_lists 5 = .ok (.iconst 0, 1) := by decide +kernel
theorem dX12_lists_6 : decode cX12_lists 6 = .ok (.istore_n 2, 1) := by decide +kernel
theorem dX12_lists_7 : decode cX12_lists 7 = .ok (.iconst 0, 1) := by decide +kernel
theorem dX12_lists_8 : decode cX12_lists 8 = .ok (.istore_n 3, 1) := by decide +kernel
theorem dX12_lists_9 : decode cX12_lists 9 = .ok (.iload_n 3, 1) := by decide +kernel
theorem dX12_lists_10 : decode cX12_lists 10 = .ok (.aload_n 0, 1) := by decide +kernel
theorem dX12_lists_11 : decode cX12_lists 11 = .ok (.invokevirtual 203, 3) := by decide +kernel
theorem dX12_lists_14 : decode cX12_lists 14 = .ok (.if_icmp .ge 157, 3) := by decide +kernel
theorem dX12_lists_171 : decode cX12_lists 171 = .ok (.return_, 1) := by decide +kernel
theorem dX12_lists_17 : decode cX12_lists 17 = .ok (.aload_n 0, 1) := by decide +kernel
theorem dX12_lists_18 : decode cX12_lists 18 = .ok (.iload_n 1, 1) := by decide +kernel
theorem dX12_lists_19 : decode cX12_lists 19 = .ok (.bipush 6, 2) := by decide +kernel
theorem dX12_lists_21 : decode cX12_lists 21 = .ok (.invokevirtual 94, 3) := by decide +kernel
theorem dX12_lists_24 : decode cX12_lists 24 = .ok (.iconst 1, 1) := by decide +kernel
theorem dX12_lists_50 : decode cX12_lists 50 = .ok (.istore 4, 2) := by decide +kernel
theorem dX12_lists_52 : decode cX12_lists 52 = .ok (.aload_n 0, 1) := by decide +kernel
theorem dX12_lists_53 : decode cX12_lists 53 = .ok (.iload_n 1, 1) := by decide +kernel
theorem dX12_lists_54 : decode cX12_lists 54 = .ok (.iconst 5, 1) := by decide +kernel
theorem dX12_lists_55 : decode cX12_lists 55 = .ok (.invokevirtual 94, 3) := by decide +kernel
theorem dX12_lists_58 : decode cX12_lists 58 = .ok (.iconst 1, 1) := by decide +kernel
theorem dX12_lists_92 : decode cX12_lists 92 = .ok (.istore 5, 2) := by decide +kernel
theorem dX12_lists_94 : decode cX12_lists 94 = .ok (.iload 4, 2) := by decide +kernel
theorem dX12_lists_96 : decode cX12_lists 96 = .ok (.aload_n 0, 1) := by decide +kernel
theorem dX12_lists_97 : decode cX12_lists 97 = .ok (.invokevirtual 87, 3) := by decide +kernel
theorem dX12_lists_100 : decode cX12_lists 100 = .ok (.imul, 1) := by decide +kernel
theorem dX12_lists_101 : decode cX12_lists 101 = .ok (.iload 5, 2) := by decide +kernel
theorem dX12_lists_103 : decode cX12_lists 103 = .ok (.iadd, 1) := by decide +kernel
theorem dX12_lists_104 : decode cX12_lists 104 = .ok (.istore 6, 2) := by decide +kernel
theorem dX12_lists_106 : decode cX12_lists 106 = .ok (.aload_n 0, 1) := by decide +kernel
theorem dX12_lists_107 : decode cX12_lists 107 = .ok (.iload_n 1, 1) := by decide +kernel
theorem dX12_lists_108 : decode cX12_lists 108 = .ok (.iconst 1, 1) := by decide +kernel
theorem dX12_lists_109 : decode cX12_lists 109 = .ok (.invokevirtual 94, 3) := by decide +kernel
theorem dX12_lists_112 : decode cX12_lists 112 = .ok (.aload_n 0, 1) := by decide +kernel
theorem dX12_lists_113 : decode cX12_lists 113 = .ok (.iload 6, 2) := by decide +kernel
theorem dX12_lists_115 : decode cX12_lists 115 = .ok (.invokevirtual 98, 3) := by decide +kernel
theorem dX12_lists_118 : decode cX12_lists 118 = .ok (.ishr, 1) := by decide +kernel
theorem dX12_lists_119 : decode cX12_lists 119 = .ok (.iconst 1, 1) := by decide +kernel
theorem dX12_lists_120 : decode cX12_lists 120 = .ok (.iand, 1) := by decide +kernel
theorem dX12_lists_121 : decode cX12_lists 121 = .ok (.ifCond .ne 6, 3) := by decide +kernel
theorem dX12_lists_127 : decode cX12_lists 127 = .ok (.iinc 2 1, 3) := by decide +kernel
theorem dX12_lists_130 : decode cX12_lists 130 = .ok (.iload_n 2, 1) := by decide +kernel
theorem dX12_lists_131 : decode cX12_lists 131 = .ok (.aload_n 0, 1) := by decide +kernel
theorem dX12_lists_132 : decode cX12_lists 132 = .ok (.iload_n 1, 1) := by decide +kernel
theorem dX12_lists_133 : decode cX12_lists 133 = .ok (.iconst 2, 1) := by decide +kernel
theorem dX12_lists_134 : decode cX12_lists 134 = .ok (.invokevirtual 94, 3) := by decide +kernel
theorem dX12_lists_137 : decode cX12_lists 137 = .ok (.irem, 1) := by decide +kernel
theorem dX12_lists_138 : decode cX12_lists 138 = .ok (.ifCond .eq 6, 3) := by decide +kernel
theorem dX12_lists_144 : decode cX12_lists 144 = .ok (.aload_n 0, 1) := by decide +kernel
theorem dX12_lists_145 : decode cX12_lists 145 = .ok (.getfield 40, 3) := by decide +kernel
theorem dX12_lists_148 : decode cX12_lists 148 = .ok (.aload_n 0, 1) := by decide +kernel
theorem dX12_lists_149 : decode cX12_lists 149 = .ok (.getfield 335, 3) := by decide +kernel
theorem dX12_lists_152 : decode cX12_lists 152 = .ok (.iload 6, 2) := by decide +kernel
theorem dX12_lists_154 : decode cX12_lists 154 = .ok (.iastore, 1) := by decide +kernel
theorem dX12_lists_155 : decode cX12_lists 155 = .ok (.aload_n 0, 1) := by decide +kernel
theorem dX12_lists_156 : decode cX12_lists 156 = .ok (.dup, 1) := by decide +kernel
theorem dX12_lists_157 : decode cX12_lists 157 = .ok (.getfield 335, 3) := by decide +kernel
theorem dX12_lists_160 : decode cX12_lists 160 = .ok (.iconst 1, 1) := by decide +kernel
theorem dX12_lists_161 : decode cX12_lists 161 = .ok (.iadd, 1) := by decide +kernel
theorem dX12_lists_162 : decode cX12_lists 162 = .ok (.putfield 335, 3) := by decide +kernel
theorem dX12_lists_165 : decode cX12_lists 165 = .ok (.iinc 3 1, 3) := by decide +kernel
theorem dX12_lists_168 : decode cX12_lists 168 = .ok (.goto (-159), 3) := by decide +kernel
theorem dX12_lists_141 : decode cX12_lists 141 = .ok (.goto 24, 3) := by decide +kernel
theorem dX12_lists_124 : decode cX12_lists 124 = .ok (.goto 41, 3) := by decide +kernel
theorem dX12_lists_59 : decode cX12_lists 59 = .ok (.if_icmp .ne 27, 3) := by decide +kernel
theorem dX12_lists_86 : decode cX12_lists 86 = .ok (.iload_n 3, 1) := by decide +kernel
theorem dX12_lists_87 : decode cX12_lists 87 = .ok (.aload_n 0, 1) := by decide +kernel
theorem dX12_lists_88 : decode cX12_lists 88 = .ok (.invokevirtual 87, 3) := by decide +kernel
theorem dX12_lists_91 : decode cX12_lists 91 = .ok (.irem, 1) := by decide +kernel
theorem dX12_lists_62 : decode cX12_lists 62 = .ok (.iload 4, 2) := by decide +kernel
theorem dX12_lists_64 : decode cX12_lists 64 = .ok (.iconst 2, 1) := by decide +kernel
theorem dX12_lists_65 : decode cX12_lists 65 = .ok (.irem, 1) := by decide +kernel
theorem dX12_lists_66 : decode cX12_lists 66 = .ok (.iconst 1, 1) := by decide +kernel
theorem dX12_lists_67 : decode cX12_lists 67 = .ok (.if_icmp .ne 19, 3) := by decide +kernel
theorem dX12_lists_70 : decode cX12_lists 70 = .ok (.aload_n 0, 1) := by decide +kernel
theorem dX12_lists_71 : decode cX12_lists 71 = .ok (.invokevirtual 87, 3) := by decide +kernel
theorem dX12_lists_74 : decode cX12_lists 74 = .ok (.iconst 1, 1) := by decide +kernel
theorem dX12_lists_75 : decode cX12_lists 75 = .ok (.isub, 1) := by decide +kernel
theorem dX12_lists_76 : decode cX12_lists 76 = .ok (.iload_n 3, 1) := by decide +kernel
theorem dX12_lists_77 : decode cX12_lists 77 = .ok (.aload_n 0, 1) := by decide +kernel
theorem dX12_lists_78 : decode cX12_lists 78 = .ok (.invokevirtual 87, 3) := by decide +kernel
theorem dX12_lists_81 : decode cX12_lists 81 = .ok (.irem, 1) := by decide +kernel
theorem dX12_lists_82 : decode cX12_lists 82 = .ok (.isub, 1) := by decide +kernel
theorem dX12_lists_83 : decode cX12_lists 83 = .ok (.goto 9, 3) := by decide +kernel
theorem dX12_lists_25 : decode cX12_lists 25 = .ok (.if_icmp .ne 19, 3) := by decide +kernel
theorem dX12_lists_44 : decode cX12_lists 44 = .ok (.iload_n 3, 1) := by decide +kernel
theorem dX12_lists_45 : decode cX12_lists 45 = .ok (.aload_n 0, 1) := by decide +kernel
theorem dX12_lists_46 : decode cX12_lists 46 = .ok (.invokevirtual 87, 3) := by decide +kernel
theorem dX12_lists_49 : decode cX12_lists 49 = .ok (.idiv, 1) := by decide +kernel
theorem dX12_lists_28 : decode cX12_lists 28 = .ok (.aload_n 0, 1) := by decide +kernel
theorem dX12_lists_29 : decode cX12_lists 29 = .ok (.invokevirtual 83, 3) := by decide +kernel
theorem dX12_lists_32 : decode cX12_lists 32 = .ok (.iconst 1, 1) := by decide +kernel
theorem dX12_lists_33 : decode cX12_lists 33 = .ok (.isub, 1) := by decide +kernel
theorem dX12_lists_34 : decode cX12_lists 34 = .ok (.iload_n 3, 1) := by decide +kernel
theorem dX12_lists_35 : decode cX12_lists 35 = .ok (.aload_n 0, 1) := by decide +kernel
theorem dX12_lists_36 : decode cX12_lists 36 = .ok (.invokevirtual 87, 3) := by decide +kernel
theorem dX12_lists_39 : decode cX12_lists 39 = .ok (.idiv, 1) := by decide +kernel
theorem dX12_lists_40 : decode cX12_lists 40 = .ok (.isub, 1) := by decide +kernel
theorem dX12_lists_41 : decode cX12_lists 41 = .ok (.goto 9, 3) := by decide +kernel
theorem dX12_roomOf_0 : decode cX12_roomOf 0 = .ok (.aload_n 0, 1) := by decide +kernel
theorem dX12_roomOf_1 : decode cX12_roomOf 1 = .ok (.iload_n 1, 1) := by decide +kernel
theorem dX12_roomOf_2 : decode cX12_roomOf 2 = .ok (.invokevirtual 338, 3) := by decide +kernel
theorem dX12_roomOf_5 : decode cX12_roomOf 5 = .ok (.aload_n 0, 1) := by decide +kernel
theorem dX12_roomOf_6 : decode cX12_roomOf 6 = .ok (.getfield 335, 3) := by decide +kernel
theorem dX12_roomOf_9 : decode cX12_roomOf 9 = .ok (.aload_n 0, 1) := by decide +kernel
theorem dX12_roomOf_10 : decode cX12_roomOf 10 = .ok (.iload_n 1, 1) := by decide +kernel
theorem dX12_roomOf_11 : decode cX12_roomOf 11 = .ok (.iconst 3, 1) := by decide +kernel
theorem dX12_roomOf_12 : decode cX12_roomOf 12 = .ok (.invokevirtual 94, 3) := by decide +kernel
theorem dX12_roomOf_15 : decode cX12_roomOf 15 = .ok (.idiv, 1) := by decide +kernel
theorem dX12_roomOf_16 : decode cX12_roomOf 16 = .ok (.aload_n 0, 1) := by decide +kernel
theorem dX12_roomOf_17 : decode cX12_roomOf 17 = .ok (.iload_n 1, 1) := by decide +kernel
theorem dX12_roomOf_18 : decode cX12_roomOf 18 = .ok (.iconst 4, 1) := by decide +kernel
theorem dX12_roomOf_19 : decode cX12_roomOf 19 = .ok (.invokevirtual 94, 3) := by decide +kernel
theorem dX12_roomOf_22 : decode cX12_roomOf 22 = .ok (.idiv, 1) := by decide +kernel
theorem dX12_roomOf_23 : decode cX12_roomOf 23 = .ok (.ireturn, 1) := by decide +kernel
theorem dX12_tells_0 : decode cX12_tells 0 = .ok (.iconst 0, 1) := by decide +kernel
theorem dX12_tells_1 : decode cX12_tells 1 = .ok (.istore_n 3, 1) := by decide +kernel
theorem dX12_tells_2 : decode cX12_tells 2 = .ok (.iconst 0, 1) := by decide +kernel
theorem dX12_tells_3 : decode cX12_tells 3 = .ok (.istore 4, 2) := by decide +kernel
theorem dX12_tells_5 : decode cX12_tells 5 = .ok (.iload 4, 2) := by decide +kernel
theorem dX12_tells_7 : decode cX12_tells 7 = .ok (.aload_n 0, 1) := by decide +kernel
theorem dX12_tells_8 : decode cX12_tells 8 = .ok (.iload_n 1, 1) := by decide +kernel
theorem dX12_tells_9 : decode cX12_tells 9 = .ok (.iconst 3, 1) := by decide +kernel
theorem dX12_tells_10 : decode cX12_tells 10 = .ok (.invokevirtual 94, 3) := by decide +kernel
theorem dX12_tells_13 : decode cX12_tells 13 = .ok (.if_icmp .ge 53, 3) := by decide +kernel
theorem dX12_tells_66 : decode cX12_tells 66 = .ok (.iload_n 3, 1) := by decide +kernel
theorem dX12_tells_67 : decode cX12_tells 67 = .ok (.iconst 2, 1) := by decide +kernel
theorem dX12_tells_68 : decode cX12_tells 68 = .ok (.irem, 1) := by decide +kernel
theorem dX12_tells_69 : decode cX12_tells 69 = .ok (.ireturn, 1) := by decide +kernel
theorem dX12_tells_16 : decode cX12_tells 16 = .ok (.aload_n 0, 1) := by decide +kernel
theorem dX12_tells_17 : decode cX12_tells 17 = .ok (.getfield 37, 3) := by decide +kernel
theorem dX12_tells_20 : decode cX12_tells 20 = .ok (.aload_n 0, 1) := by decide +kernel
theorem dX12_tells_21 : decode cX12_tells 21 = .ok (.getfield 40, 3) := by decide +kernel
theorem dX12_tells_24 : decode cX12_tells 24 = .ok (.iload_n 2, 1) := by decide +kernel
theorem dX12_tells_25 : decode cX12_tells 25 = .ok (.aload_n 0, 1) := by decide +kernel
theorem dX12_tells_26 : decode cX12_tells 26 = .ok (.iload_n 1, 1) := by decide +kernel
theorem dX12_tells_27 : decode cX12_tells 27 = .ok (.iconst 3, 1) := by decide +kernel
theorem dX12_tells_28 : decode cX12_tells 28 = .ok (.invokevirtual 94, 3) := by decide +kernel
theorem dX12_tells_31 : decode cX12_tells 31 = .ok (.imul, 1) := by decide +kernel
theorem dX12_tells_32 : decode cX12_tells 32 = .ok (.iload 4, 2) := by decide +kernel
theorem dX12_tells_34 : decode cX12_tells 34 = .ok (.iadd, 1) := by decide +kernel
theorem dX12_tells_35 : decode cX12_tells 35 = .ok (.iaload, 1) := by decide +kernel
theorem dX12_tells_36 : decode cX12_tells 36 = .ok (.iaload, 1) := by decide +kernel
theorem dX12_tells_37 : decode cX12_tells 37 = .ok (.istore 5, 2) := by decide +kernel
theorem dX12_tells_39 : decode cX12_tells 39 = .ok (.iload 5, 2) := by decide +kernel
theorem dX12_tells_41 : decode cX12_tells 41 = .ok (.iconst 4, 1) := by decide +kernel
theorem dX12_tells_42 : decode cX12_tells 42 = .ok (.if_icmp .ne 5, 3) := by decide +kernel
theorem dX12_tells_47 : decode cX12_tells 47 = .ok (.iload_n 3, 1) := by decide +kernel
theorem dX12_tells_48 : decode cX12_tells 48 = .ok (.iload 5, 2) := by decide +kernel
theorem dX12_tells_50 : decode cX12_tells 50 = .ok (.ifCond .ne 7, 3) := by decide +kernel
theorem dX12_tells_57 : decode cX12_tells 57 = .ok (.iconst 1, 1) := by decide +kernel
theorem dX12_tells_58 : decode cX12_tells 58 = .ok (.iadd, 1) := by decide +kernel
theorem dX12_tells_59 : decode cX12_tells 59 = .ok (.istore_n 3, 1) := by decide +kernel
theorem dX12_tells_60 : decode cX12_tells 60 = .ok (.iinc 4 1, 3) := by decide +kernel
theorem dX12_tells_63 : decode cX12_tells 63 = .ok (.goto (-58), 3) := by decide +kernel
theorem dX12_tells_53 : decode cX12_tells 53 = .ok (.iconst 0, 1) := by decide +kernel
theorem dX12_tells_54 : decode cX12_tells 54 = .ok (.goto 4, 3) := by decide +kernel
theorem dX12_tells_45 : decode cX12_tells 45 = .ok (.iconst 2, 1) := by decide +kernel
theorem dX12_tells_46 : decode cX12_tells 46 = .ok (.ireturn, 1) := by decide +kernel
theorem dX12_bitOf_0 : decode cX12_bitOf 0 = .ok (.iconst 0, 1) := by decide +kernel
theorem dX12_bitOf_1 : decode cX12_bitOf 1 = .ok (.istore_n 3, 1) := by decide +kernel
theorem dX12_bitOf_2 : decode cX12_bitOf 2 = .ok (.iconst 0, 1) := by decide +kernel
theorem dX12_bitOf_3 : decode cX12_bitOf 3 = .ok (.istore 4, 2) := by decide +kernel
theorem dX12_bitOf_5 : decode cX12_bitOf 5 = .ok (.iconst 0, 1) := by decide +kernel
theorem dX12_bitOf_6 : decode cX12_bitOf 6 = .ok (.istore 5, 2) := by decide +kernel
theorem dX12_bitOf_8 : decode cX12_bitOf 8 = .ok (.iload 5, 2) := by decide +kernel
theorem dX12_bitOf_10 : decode cX12_bitOf 10 = .ok (.aload_n 0, 1) := by decide +kernel
theorem dX12_bitOf_11 : decode cX12_bitOf 11 = .ok (.iload_n 1, 1) := by decide +kernel
theorem dX12_bitOf_12 : decode cX12_bitOf 12 = .ok (.iconst 4, 1) := by decide +kernel
theorem dX12_bitOf_13 : decode cX12_bitOf 13 = .ok (.invokevirtual 94, 3) := by decide +kernel
theorem dX12_bitOf_16 : decode cX12_bitOf 16 = .ok (.if_icmp .ge 56, 3) := by decide +kernel
theorem dX12_bitOf_72 : decode cX12_bitOf 72 = .ok (.iload_n 3, 1) := by decide +kernel
theorem dX12_bitOf_73 : decode cX12_bitOf 73 = .ok (.iload 4, 2) := by decide +kernel
theorem dX12_bitOf_75 : decode cX12_bitOf 75 = .ok (.if_icmp .le 7, 3) := by decide +kernel
theorem dX12_bitOf_82 : decode cX12_bitOf 82 = .ok (.iload 4, 2) := by decide +kernel
theorem dX12_bitOf_84 : decode cX12_bitOf 84 = .ok (.iload_n 3, 1) := by decide +kernel
theorem dX12_bitOf_85 : decode cX12_bitOf 85 = .ok (.if_icmp .le 7, 3) := by decide +kernel
theorem dX12_bitOf_92 : decode cX12_bitOf 92 = .ok (.iconst 2, 1) := by decide +kernel
theorem dX12_bitOf_93 : decode cX12_bitOf 93 = .ok (.ireturn, 1) := by decide +kernel
theorem dX12_bitOf_88 : decode cX12_bitOf 88 = .ok (.iconst 0, 1) := by decide +kernel
theorem dX12_bitOf_89 : decode cX12_bitOf 89 = .ok (.goto 4, 3) := by decide +kernel
theorem dX12_bitOf_78 : decode cX12_bitOf 78 = .ok (.iconst 1, 1) := by decide +kernel
theorem dX12_bitOf_79 : decode cX12_bitOf 79 = .ok (.goto 14, 3) := by decide +kernel
theorem dX12_bitOf_19 : decode cX12_bitOf 19 = .ok (.aload_n 0, 1) := by decide +kernel
theorem dX12_bitOf_20 : decode cX12_bitOf 20 = .ok (.iload_n 1, 1) := by decide +kernel
theorem dX12_bitOf_21 : decode cX12_bitOf 21 = .ok (.iload_n 2, 1) := by decide +kernel
theorem dX12_bitOf_22 : decode cX12_bitOf 22 = .ok (.aload_n 0, 1) := by decide +kernel
theorem dX12_bitOf_23 : decode cX12_bitOf 23 = .ok (.iload_n 1, 1) := by decide +kernel
theorem dX12_bitOf_24 : decode cX12_bitOf 24 = .ok (.iconst 4, 1) := by decide +kernel
theorem dX12_bitOf_25 : decode cX12_bitOf 25 = .ok (.invokevirtual 94, 3) := by decide +kernel
theorem dX12_bitOf_28 : decode cX12_bitOf 28 = .ok (.imul, 1) := by decide +kernel
theorem dX12_bitOf_29 : decode cX12_bitOf 29 = .ok (.iload 5, 2) := by decide +kernel
theorem dX12_bitOf_31 : decode cX12_bitOf 31 = .ok (.iadd, 1) := by decide +kernel
theorem dX12_bitOf_32 : decode cX12_bitOf 32 = .ok (.invokevirtual 341, 3) := by decide +kernel
theorem dX12_bitOf_35 : decode cX12_bitOf 35 = .ok (.istore 6, 2) := by decide +kernel
theorem dX12_bitOf_37 : decode cX12_bitOf 37 = .ok (.iload_n 3, 1) := by decide +kernel
theorem dX12_bitOf_38 : decode cX12_bitOf 38 = .ok (.iload 6, 2) := by decide +kernel
theorem dX12_bitOf_40 : decode cX12_bitOf 40 = .ok (.iconst 1, 1) := by decide +kernel
theorem dX12_bitOf_49 : decode cX12_bitOf 49 = .ok (.iadd, 1) := by decide +kernel
theorem dX12_bitOf_50 : decode cX12_bitOf 50 = .ok (.istore_n 3, 1) := by decide +kernel
theorem dX12_bitOf_51 : decode cX12_bitOf 51 = .ok (.iload 4, 2) := by decide +kernel
theorem dX12_bitOf_53 : decode cX12_bitOf 53 = .ok (.iload 6, 2) := by decide +kernel
theorem dX12_bitOf_55 : decode cX12_bitOf 55 = .ok (.ifCond .ne 7, 3) := by decide +kernel
theorem dX12_bitOf_62 : decode cX12_bitOf 62 = .ok (.iconst 0, 1) := by decide +kernel
theorem dX12_bitOf_63 : decode cX12_bitOf 63 = .ok (.iadd, 1) := by decide +kernel
theorem dX12_bitOf_64 : decode cX12_bitOf 64 = .ok (.istore 4, 2) := by decide +kernel
theorem dX12_bitOf_66 : decode cX12_bitOf 66 = .ok (.iinc 5 1, 3) := by decide +kernel
theorem dX12_bitOf_69 : decode cX12_bitOf 69 = .ok (.goto (-61), 3) := by decide +kernel
theorem dX12_bitOf_58 : decode cX12_bitOf 58 = .ok (.iconst 1, 1) := by decide +kernel
theorem dX12_bitOf_59 : decode cX12_bitOf 59 = .ok (.goto 4, 3) := by decide +kernel
theorem dX12_bitOf_41 : decode cX12_bitOf 41 = .ok (.if_icmp .ne 7, 3) := by decide +kernel
theorem dX12_bitOf_48 : decode cX12_bitOf 48 = .ok (.iconst 0, 1) := by decide +kernel
theorem dX12_bitOf_44 : decode cX12_bitOf 44 = .ok (.iconst 1, 1) := by decide +kernel
theorem dX12_bitOf_45 : decode cX12_bitOf 45 = .ok (.goto 4, 3) := by decide +kernel
theorem dX12_turnOver_0 : decode cX12_turnOver 0 = .ok (.aload_n 0, 1) := by decide +kernel
theorem dX12_turnOver_1 : decode cX12_turnOver 1 = .ok (.getfield 37, 3) := by decide +kernel
theorem dX12_turnOver_4 : decode cX12_turnOver 4 = .ok (.iload_n 1, 1) := by decide +kernel
theorem dX12_turnOver_5 : decode cX12_turnOver 5 = .ok (.iaload, 1) := by decide +kernel
theorem dX12_turnOver_6 : decode cX12_turnOver 6 = .ok (.ifCond .ne 11, 3) := by decide +kernel
theorem dX12_turnOver_17 : decode cX12_turnOver 17 = .ok (.iconst 0, 1) := by decide +kernel
theorem dX12_turnOver_18 : decode cX12_turnOver 18 = .ok (.ireturn, 1) := by decide +kernel
theorem dX12_turnOver_9 : decode cX12_turnOver 9 = .ok (.aload_n 0, 1) := by decide +kernel
theorem dX12_turnOver_10 : decode cX12_turnOver 10 = .ok (.iload_n 1, 1) := by decide +kernel
theorem dX12_turnOver_11 : decode cX12_turnOver 11 = .ok (.invokevirtual 314, 3) := by decide +kernel
theorem dX12_turnOver_14 : decode cX12_turnOver 14 = .ok (.goto 4, 3) := by decide +kernel
theorem dX12_putBit_0 : decode cX12_putBit 0 = .ok (.iconst 0, 1) := by decide +kernel
theorem dX12_putBit_1 : decode cX12_putBit 1 = .ok (.istore 4, 2) := by decide +kernel
theorem dX12_putBit_3 : decode cX12_putBit 3 = .ok (.iload_n 2, 1) := by decide +kernel
theorem dX12_putBit_4 : decode cX12_putBit 4 = .ok (.aload_n 0, 1) := by decide +kernel
theorem dX12_putBit_5 : decode cX12_putBit 5 = .ok (.iload_n 1, 1) := by decide +kernel
theorem dX12_putBit_6 : decode cX12_putBit 6 = .ok (.iconst 4, 1) := by decide +kernel
theorem dX12_putBit_7 : decode cX12_putBit 7 = .ok (.invokevirtual 94, 3) := by decide +kernel
theorem dX12_putBit_10 : decode cX12_putBit 10 = .ok (.imul, 1) := by decide +kernel
theorem dX12_putBit_11 : decode cX12_putBit 11 = .ok (.istore 5, 2) := by decide +kernel
theorem dX12_putBit_13 : decode cX12_putBit 13 = .ok (.iload 5, 2) := by decide +kernel
theorem dX12_putBit_15 : decode cX12_putBit 15 = .ok (.iload_n 2, 1) := by decide +kernel
theorem dX12_putBit_16 : decode cX12_putBit 16 = .ok (.iconst 1, 1) := by decide +kernel
theorem dX12_putBit_17 : decode cX12_putBit 17 = .ok (.iadd, 1) := by decide +kernel
theorem dX12_putBit_18 : decode cX12_putBit 18 = .ok (.aload_n 0, 1) := by decide +kernel
theorem dX12_putBit_19 : decode cX12_putBit 19 = .ok (.iload_n 1, 1) := by decide +kernel
theorem dX12_putBit_20 : decode cX12_putBit 20 = .ok (.iconst 4, 1) := by decide +kernel
theorem dX12_putBit_21 : decode cX12_putBit 21 = .ok (.invokevirtual 94, 3) := by decide +kernel
theorem dX12_putBit_24 : decode cX12_putBit 24 = .ok (.imul, 1) := by decide +kernel
theorem dX12_putBit_25 : decode cX12_putBit 25 = .ok (.if_icmp .ge 116, 3) := by decide +kernel
theorem dX12_putBit_141 : decode cX12_putBit 141 = .ok (.iload 4, 2) := by decide +kernel
theorem dX12_putBit_143 : decode cX12_putBit 143 = .ok (.ireturn, 1) := by decide +kernel
theorem dX12_putBit_28 : decode cX12_putBit 28 = .ok (.aload_n 0, 1) := by decide +kernel
theorem dX12_putBit_29 : decode cX12_putBit 29 = .ok (.iload_n 1, 1) := by decide +kernel
theorem dX12_putBit_30 : decode cX12_putBit 30 = .ok (.iload 5, 2) := by decide +kernel
theorem dX12_putBit_32 : decode cX12_putBit 32 = .ok (.invokevirtual 341, 3) := by decide +kernel
theorem dX12_putBit_35 : decode cX12_putBit 35 = .ok (.iload_n 3, 1) := by decide +kernel
theorem dX12_putBit_36 : decode cX12_putBit 36 = .ok (.if_icmp .ne 6, 3) := by decide +kernel
theorem dX12_putBit_42 : decode cX12_putBit 42 = .ok (.iconst (-1), 1) := by decide +kernel
theorem dX12_putBit_43 : decode cX12_putBit 43 = .ok (.istore 6, 2) := by decide +kernel
theorem dX12_putBit_45 : decode cX12_putBit 45 = .ok (.iconst 0, 1) := by decide +kernel
theorem dX12_putBit_46 : decode cX12_putBit 46 = .ok (.istore 7, 2) := by decide +kernel
theorem dX12_putBit_48 : decode cX12_putBit 48 = .ok (.iload 7, 2) := by decide +kernel
theorem dX12_putBit_50 : decode cX12_putBit 50 = .ok (.aload_n 0, 1) := by decide +kernel
theorem dX12_putBit_51 : decode cX12_putBit 51 = .ok (.iload_n 1, 1) := by decide +kernel
theorem dX12_putBit_52 : decode cX12_putBit 52 = .ok (.iconst 3, 1) := by decide +kernel
theorem dX12_putBit_53 : decode cX12_putBit 53 = .ok (.invokevirtual 94, 3) := by decide +kernel
theorem dX12_putBit_56 : decode cX12_putBit 56 = .ok (.if_icmp .ge 54, 3) := by decide +kernel
theorem dX12_putBit_110 : decode cX12_putBit 110 = .ok (.iload 6, 2) := by decide +kernel
theorem dX12_putBit_112 : decode cX12_putBit 112 = .ok (.iconst (-1), 1) := by decide +kernel
theorem dX12_putBit_113 : decode cX12_putBit 113 = .ok (.if_icmp .ne 6, 3) := by decide +kernel
theorem dX12_putBit_119 : decode cX12_putBit 119 = .ok (.aload_n 0, 1) := by decide +kernel
theorem dX12_putBit_120 : decode cX12_putBit 120 = .ok (.getfield 37, 3) := by decide +kernel
theorem dX12_putBit_123 : decode cX12_putBit 123 = .ok (.iload 6, 2) := by decide +kernel
theorem dX12_putBit_125 : decode cX12_putBit 125 = .ok (.aload_n 0, 1) := by decide +kernel
theorem dX12_putBit_126 : decode cX12_putBit 126 = .ok (.iload 6, 2) := by decide +kernel
theorem dX12_putBit_128 : decode cX12_putBit 128 = .ok (.invokevirtual 344, 3) := by decide +kernel
theorem dX12_putBit_131 : decode cX12_putBit 131 = .ok (.iastore, 1) := by decide +kernel
theorem dX12_putBit_132 : decode cX12_putBit 132 = .ok (.iinc 4 1, 3) := by decide +kernel
theorem dX12_putBit_135 : decode cX12_putBit 135 = .ok (.iinc 5 1, 3) := by decide +kernel
theorem dX12_putBit_138 : decode cX12_putBit 138 = .ok (.goto (-125), 3) := by decide +kernel
theorem dX12_putBit_116 : decode cX12_putBit 116 = .ok (.goto 19, 3) := by decide +kernel
theorem dX12_putBit_59 : decode cX12_putBit 59 = .ok (.aload_n 0, 1) := by decide +kernel
theorem dX12_putBit_60 : decode cX12_putBit 60 = .ok (.getfield 37, 3) := by decide +kernel
theorem dX12_putBit_63 : decode cX12_putBit 63 = .ok (.aload_n 0, 1) := by decide +kernel
theorem dX12_putBit_64 : decode cX12_putBit 64 = .ok (.getfield 40, 3) := by decide +kernel
theorem dX12_putBit_67 : decode cX12_putBit 67 = .ok (.iload 5, 2) := by decide +kernel
theorem dX12_putBit_69 : decode cX12_putBit 69 = .ok (.aload_n 0, 1) := by decide +kernel
theorem dX12_putBit_70 : decode cX12_putBit 70 = .ok (.iload_n 1, 1) := by decide +kernel
theorem dX12_putBit_71 : decode cX12_putBit 71 = .ok (.iconst 3, 1) := by decide +kernel
theorem dX12_putBit_72 : decode cX12_putBit 72 = .ok (.invokevirtual 94, 3) := by decide +kernel
theorem dX12_putBit_75 : decode cX12_putBit 75 = .ok (.imul, 1) := by decide +kernel
theorem dX12_putBit_76 : decode cX12_putBit 76 = .ok (.iload 7, 2) := by decide +kernel
theorem dX12_putBit_78 : decode cX12_putBit 78 = .ok (.iadd, 1) := by decide +kernel
theorem dX12_putBit_79 : decode cX12_putBit 79 = .ok (.iaload, 1) := by decide +kernel
theorem dX12_putBit_80 : decode cX12_putBit 80 = .ok (.iaload, 1) := by decide +kernel
theorem dX12_putBit_81 : decode cX12_putBit 81 = .ok (.iconst 4, 1) := by decide +kernel
theorem dX12_putBit_82 : decode cX12_putBit 82 = .ok (.if_icmp .eq 22, 3) := by decide +kernel
theorem dX12_putBit_104 : decode cX12_putBit 104 = .ok (.iinc 7 1, 3) := by decide +kernel
theorem dX12_putBit_107 : decode cX12_putBit 107 = .ok (.goto (-59), 3) := by decide +kernel
theorem dX12_putBit_85 : decode cX12_putBit 85 = .ok (.aload_n 0, 1) := by decide +kernel
theorem dX12_putBit_86 : decode cX12_putBit 86 = .ok (.getfield 40, 3) := by decide +kernel
theorem dX12_putBit_89 : decode cX12_putBit 89 = .ok (.iload 5, 2) := by decide +kernel
theorem dX12_putBit_91 : decode cX12_putBit 91 = .ok (.aload_n 0, 1) := by decide +kernel
theorem dX12_putBit_92 : decode cX12_putBit 92 = .ok (.iload_n 1, 1) := by decide +kernel
theorem dX12_putBit_93 : decode cX12_putBit 93 = .ok (.iconst 3, 1) := by decide +kernel
theorem dX12_putBit_94 : decode cX12_putBit 94 = .ok (.invokevirtual 94, 3) := by decide +kernel
theorem dX12_putBit_97 : decode cX12_putBit 97 = .ok (.imul, 1) := by decide +kernel
theorem dX12_putBit_98 : decode cX12_putBit 98 = .ok (.iload 7, 2) := by decide +kernel
theorem dX12_putBit_100 : decode cX12_putBit 100 = .ok (.iadd, 1) := by decide +kernel
theorem dX12_putBit_101 : decode cX12_putBit 101 = .ok (.iaload, 1) := by decide +kernel
theorem dX12_putBit_102 : decode cX12_putBit 102 = .ok (.istore 6, 2) := by decide +kernel
theorem dX12_putBit_39 : decode cX12_putBit 39 = .ok (.goto 96, 3) := by decide +kernel
theorem dX12_puts_0 : decode cX12_puts 0 = .ok (.iconst 0, 1) := by decide +kernel
theorem dX12_puts_1 : decode cX12_puts 1 = .ok (.istore 4, 2) := by decide +kernel
theorem dX12_puts_3 : decode cX12_puts 3 = .ok (.iconst 0, 1) := by decide +kernel
theorem dX12_puts_4 : decode cX12_puts 4 = .ok (.istore 5, 2) := by decide +kernel
theorem dX12_puts_6 : decode cX12_puts 6 = .ok (.iload 5, 2) := by decide +kernel
theorem dX12_puts_8 : decode cX12_puts 8 = .ok (.iconst 5, 1) := by decide +kernel
theorem dX12_puts_9 : decode cX12_puts 9 = .ok (.iload_n 3, 1) := by decide +kernel
theorem dX12_puts_10 : decode cX12_puts 10 = .ok (.iconst 1, 1) := by decide +kernel
theorem dX12_puts_11 : decode cX12_puts 11 = .ok (.iadd, 1) := by decide +kernel
theorem dX12_puts_12 : decode cX12_puts 12 = .ok (.imul, 1) := by decide +kernel
theorem dX12_puts_13 : decode cX12_puts 13 = .ok (.if_icmp .ge 53, 3) := by decide +kernel
theorem dX12_puts_66 : decode cX12_puts 66 = .ok (.iload 4, 2) := by decide +kernel
theorem dX12_puts_68 : decode cX12_puts 68 = .ok (.ireturn, 1) := by decide +kernel
theorem dX12_puts_16 : decode cX12_puts 16 = .ok (.iload 5, 2) := by decide +kernel
theorem dX12_puts_18 : decode cX12_puts 18 = .ok (.iconst 5, 1) := by decide +kernel
theorem dX12_puts_19 : decode cX12_puts 19 = .ok (.idiv, 1) := by decide +kernel
theorem dX12_puts_20 : decode cX12_puts 20 = .ok (.iload_n 3, 1) := by decide +kernel
theorem dX12_puts_35 : decode cX12_puts 35 = .ok (.istore 6, 2) := by decide +kernel
theorem dX12_puts_37 : decode cX12_puts 37 = .ok (.iload 4, 2) := by decide +kernel
theorem dX12_puts_39 : decode cX12_puts 39 = .ok (.aload_n 0, 1) := by decide +kernel
theorem dX12_puts_40 : decode cX12_puts 40 = .ok (.iload_n 1, 1) := by decide +kernel
theorem dX12_puts_41 : decode cX12_puts 41 = .ok (.iload 5, 2) := by decide +kernel
theorem dX12_puts_43 : decode cX12_puts 43 = .ok (.iload 6, 2) := by decide +kernel
theorem dX12_puts_45 : decode cX12_puts 45 = .ok (.iconst 4, 1) := by decide +kernel
theorem dX12_puts_46 : decode cX12_puts 46 = .ok (.iload 5, 2) := by decide +kernel
theorem dX12_puts_48 : decode cX12_puts 48 = .ok (.iconst 5, 1) := by decide +kernel
theorem dX12_puts_49 : decode cX12_puts 49 = .ok (.irem, 1) := by decide +kernel
theorem dX12_puts_50 : decode cX12_puts 50 = .ok (.isub, 1) := by decide +kernel
theorem dX12_puts_51 : decode cX12_puts 51 = .ok (.ishr, 1) := by decide +kernel
theorem dX12_puts_52 : decode cX12_puts 52 = .ok (.iconst 1, 1) := by decide +kernel
theorem dX12_puts_53 : decode cX12_puts 53 = .ok (.iand, 1) := by decide +kernel
theorem dX12_puts_54 : decode cX12_puts 54 = .ok (.invokevirtual 347, 3) := by decide +kernel
theorem dX12_puts_57 : decode cX12_puts 57 = .ok (.iadd, 1) := by decide +kernel
theorem dX12_puts_58 : decode cX12_puts 58 = .ok (.istore 4, 2) := by decide +kernel
theorem dX12_puts_60 : decode cX12_puts 60 = .ok (.iinc 5 1, 3) := by decide +kernel
theorem dX12_puts_63 : decode cX12_puts 63 = .ok (.goto (-57), 3) := by decide +kernel
theorem dX12_puts_21 : decode cX12_puts 21 = .ok (.if_icmp .ge 12, 3) := by decide +kernel
theorem dX12_puts_33 : decode cX12_puts 33 = .ok (.bipush 31, 2) := by decide +kernel
theorem dX12_puts_24 : decode cX12_puts 24 = .ok (.aload_n 2, 1) := by decide +kernel
theorem dX12_puts_25 : decode cX12_puts 25 = .ok (.iload 5, 2) := by decide +kernel
theorem dX12_puts_27 : decode cX12_puts 27 = .ok (.iconst 5, 1) := by decide +kernel
theorem dX12_puts_28 : decode cX12_puts 28 = .ok (.idiv, 1) := by decide +kernel
theorem dX12_puts_29 : decode cX12_puts 29 = .ok (.iaload, 1) := by decide +kernel
theorem dX12_puts_30 : decode cX12_puts 30 = .ok (.goto 5, 3) := by decide +kernel
theorem dX12_asks_0 : decode cX12_asks 0 = .ok (.iload_n 1, 1) := by decide +kernel
theorem dX12_asks_1 : decode cX12_asks 1 = .ok (.invokestatic 319, 3) := by decide +kernel
theorem dX12_asks_4 : decode cX12_asks 4 = .ok (.ifCond .eq 10, 3) := by decide +kernel
theorem dX12_asks_14 : decode cX12_asks 14 = .ok (.bipush (-2), 2) := by decide +kernel
theorem dX12_asks_16 : decode cX12_asks 16 = .ok (.goto 25, 3) := by decide +kernel
theorem dX12_asks_41 : decode cX12_asks 41 = .ok (.ireturn, 1) := by decide +kernel
theorem dX12_asks_7 : decode cX12_asks 7 = .ok (.iload_n 2, 1) := by decide +kernel
theorem dX12_asks_8 : decode cX12_asks 8 = .ok (.invokestatic 221, 3) := by decide +kernel
theorem dX12_asks_11 : decode cX12_asks 11 = .ok (.ifCond .ne 8, 3) := by decide +kernel
theorem dX12_asks_19 : decode cX12_asks 19 = .ok (.aload_n 0, 1) := by decide +kernel
theorem dX12_asks_20 : decode cX12_asks 20 = .ok (.iload_n 1, 1) := by decide +kernel
theorem dX12_asks_21 : decode cX12_asks 21 = .ok (.invokevirtual 351, 3) := by decide +kernel
theorem dX12_asks_24 : decode cX12_asks 24 = .ok (.ifCond .eq 11, 3) := by decide +kernel
theorem dX12_asks_35 : decode cX12_asks 35 = .ok (.bipush (-6), 2) := by decide +kernel
theorem dX12_asks_37 : decode cX12_asks 37 = .ok (.goto 4, 3) := by decide +kernel
theorem dX12_asks_27 : decode cX12_asks 27 = .ok (.aload_n 0, 1) := by decide +kernel
theorem dX12_asks_28 : decode cX12_asks 28 = .ok (.iload_n 2, 1) := by decide +kernel
theorem dX12_asks_29 : decode cX12_asks 29 = .ok (.invokevirtual 354, 3) := by decide +kernel
theorem dX12_asks_32 : decode cX12_asks 32 = .ok (.ifCond .ne 8, 3) := by decide +kernel
theorem dX12_asks_40 : decode cX12_asks 40 = .ok (.iconst 0, 1) := by decide +kernel
theorem dX12_asksCloth_0 : decode cX12_asksCloth 0 = .ok (.iload_n 1, 1) := by decide +kernel
theorem dX12_asksCloth_1 : decode cX12_asksCloth 1 = .ok (.invokestatic 319, 3) := by decide +kernel
theorem dX12_asksCloth_4 : decode cX12_asksCloth 4 = .ok (.ifCond .ne 8, 3) := by decide +kernel
theorem dX12_asksCloth_12 : decode cX12_asksCloth 12 = .ok (.aload_n 0, 1) := by decide +kernel
theorem dX12_asksCloth_13 : decode cX12_asksCloth 13 = .ok (.iload_n 1, 1) := by decide +kernel
theorem dX12_asksCloth_14 : decode cX12_asksCloth 14 = .ok (.invokevirtual 351, 3) := by decide +kernel
theorem dX12_asksCloth_17 : decode cX12_asksCloth 17 = .ok (.ifCond .eq 7, 3) := by decide +kernel
theorem dX12_asksCloth_24 : decode cX12_asksCloth 24 = .ok (.bipush (-6), 2) := by decide +kernel
theorem dX12_asksCloth_26 : decode cX12_asksCloth 26 = .ok (.ireturn, 1) := by decide +kernel
theorem dX12_asksCloth_20 : decode cX12_asksCloth 20 = .ok (.iconst 0, 1) := by decide +kernel
theorem dX12_asksCloth_21 : decode cX12_asksCloth 21 = .ok (.goto 5, 3) := by decide +kernel
theorem dX12_asksCloth_7 : decode cX12_asksCloth 7 = .ok (.bipush (-2), 2) := by decide +kernel
theorem dX12_asksCloth_9 : decode cX12_asksCloth 9 = .ok (.goto 17, 3) := by decide +kernel
theorem dX12_asksWay_0 : decode cX12_asksWay 0 = .ok (.iload_n 1, 1) := by decide +kernel
theorem dX12_asksWay_1 : decode cX12_asksWay 1 = .ok (.invokestatic 221, 3) := by decide +kernel
theorem dX12_asksWay_4 : decode cX12_asksWay 4 = .ok (.ifCond .ne 8, 3) := by decide +kernel
theorem dX12_asksWay_12 : decode cX12_asksWay 12 = .ok (.aload_n 0, 1) := by decide +kernel
theorem dX12_asksWay_13 : decode cX12_asksWay 13 = .ok (.iload_n 1, 1) := by decide +kernel
theorem dX12_asksWay_14 : decode cX12_asksWay 14 = .ok (.invokevirtual 354, 3) := by decide +kernel
theorem dX12_asksWay_17 : decode cX12_asksWay 17 = .ok (.ifCond .eq 7, 3) := by decide +kernel
theorem dX12_asksWay_24 : decode cX12_asksWay 24 = .ok (.bipush (-6), 2) := by decide +kernel
theorem dX12_asksWay_26 : decode cX12_asksWay 26 = .ok (.ireturn, 1) := by decide +kernel
theorem dX12_asksWay_20 : decode cX12_asksWay 20 = .ok (.iconst 0, 1) := by decide +kernel
theorem dX12_asksWay_21 : decode cX12_asksWay 21 = .ok (.goto 5, 3) := by decide +kernel
theorem dX12_asksWay_7 : decode cX12_asksWay 7 = .ok (.bipush (-2), 2) := by decide +kernel
theorem dX12_asksWay_9 : decode cX12_asksWay 9 = .ok (.goto 17, 3) := by decide +kernel
theorem dX12_asksTwo_0 : decode cX12_asksTwo 0 = .ok (.iload_n 1, 1) := by decide +kernel
theorem dX12_asksTwo_1 : decode cX12_asksTwo 1 = .ok (.invokestatic 319, 3) := by decide +kernel
theorem dX12_asksTwo_4 : decode cX12_asksTwo 4 = .ok (.ifCond .eq 10, 3) := by decide +kernel
theorem dX12_asksTwo_14 : decode cX12_asksTwo 14 = .ok (.bipush (-2), 2) := by decide +kernel
theorem dX12_asksTwo_16 : decode cX12_asksTwo 16 = .ok (.goto 25, 3) := by decide +kernel
theorem dX12_asksTwo_41 : decode cX12_asksTwo 41 = .ok (.ireturn, 1) := by decide +kernel
theorem dX12_asksTwo_7 : decode cX12_asksTwo 7 = .ok (.iload_n 2, 1) := by decide +kernel
theorem dX12_asksTwo_8 : decode cX12_asksTwo 8 = .ok (.invokestatic 319, 3) := by decide +kernel
theorem dX12_asksTwo_11 : decode cX12_asksTwo 11 = .ok (.ifCond .ne 8, 3) := by decide +kernel
theorem dX12_asksTwo_19 : decode cX12_asksTwo 19 = .ok (.aload_n 0, 1) := by decide +kernel
theorem dX12_asksTwo_20 : decode cX12_asksTwo 20 = .ok (.iload_n 1, 1) := by decide +kernel
theorem dX12_asksTwo_21 : decode cX12_asksTwo 21 = .ok (.invokevirtual 351, 3) := by decide +kernel
theorem dX12_asksTwo_24 : decode cX12_asksTwo 24 = .ok (.ifCond .eq 15, 3) := by decide +kernel
theorem dX12_asksTwo_39 : decode cX12_asksTwo 39 = .ok (.bipush (-6), 2) := by decide +kernel
theorem dX12_asksTwo_27 : decode cX12_asksTwo 27 = .ok (.aload_n 0, 1) := by decide +kernel
theorem dX12_asksTwo_28 : decode cX12_asksTwo 28 = .ok (.iload_n 2, 1) := by decide +kernel
theorem dX12_asksTwo_29 : decode cX12_asksTwo 29 = .ok (.invokevirtual 351, 3) := by decide +kernel
theorem dX12_asksTwo_32 : decode cX12_asksTwo 32 = .ok (.ifCond .eq 7, 3) := by decide +kernel
theorem dX12_asksTwo_35 : decode cX12_asksTwo 35 = .ok (.iconst 0, 1) := by decide +kernel
theorem dX12_asksTwo_36 : decode cX12_asksTwo 36 = .ok (.goto 5, 3) := by decide +kernel
theorem dX12_isPlace_0 : decode cX12_isPlace 0 = .ok (.iload_n 1, 1) := by decide +kernel
theorem dX12_isPlace_1 : decode cX12_isPlace 1 = .ok (.i2l, 1) := by decide +kernel
theorem dX12_isPlace_2 : decode cX12_isPlace 2 = .ok (.lconst 0, 1) := by decide +kernel
theorem dX12_isPlace_3 : decode cX12_isPlace 3 = .ok (.aload_n 0, 1) := by decide +kernel
theorem dX12_isPlace_4 : decode cX12_isPlace 4 = .ok (.invokevirtual 83, 3) := by decide +kernel
theorem dX12_isPlace_7 : decode cX12_isPlace 7 = .ok (.iconst 1, 1) := by decide +kernel
theorem dX12_isPlace_8 : decode cX12_isPlace 8 = .ok (.isub, 1) := by decide +kernel
theorem dX12_isPlace_9 : decode cX12_isPlace 9 = .ok (.i2l, 1) := by decide +kernel
theorem dX12_isPlace_10 : decode cX12_isPlace 10 = .ok (.invokestatic 79, 3) := by decide +kernel
theorem dX12_isPlace_13 : decode cX12_isPlace 13 = .ok (.ifCond .eq 23, 3) := by decide +kernel
theorem dX12_isPlace_36 : decode cX12_isPlace 36 = .ok (.iconst 0, 1) := by decide +kernel
theorem dX12_isPlace_37 : decode cX12_isPlace 37 = .ok (.ireturn, 1) := by decide +kernel
theorem dX12_isPlace_16 : decode cX12_isPlace 16 = .ok (.iload_n 2, 1) := by decide +kernel
theorem dX12_isPlace_17 : decode cX12_isPlace 17 = .ok (.i2l, 1) := by decide +kernel
theorem dX12_isPlace_18 : decode cX12_isPlace 18 = .ok (.lconst 0, 1) := by decide +kernel
theorem dX12_isPlace_19 : decode cX12_isPlace 19 = .ok (.aload_n 0, 1) := by decide +kernel
theorem dX12_isPlace_20 : decode cX12_isPlace 20 = .ok (.invokevirtual 87, 3) := by decide +kernel
theorem dX12_isPlace_23 : decode cX12_isPlace 23 = .ok (.iconst 1, 1) := by decide +kernel
theorem dX12_isPlace_24 : decode cX12_isPlace 24 = .ok (.isub, 1) := by decide +kernel
theorem dX12_isPlace_25 : decode cX12_isPlace 25 = .ok (.i2l, 1) := by decide +kernel
theorem dX12_isPlace_26 : decode cX12_isPlace 26 = .ok (.invokestatic 79, 3) := by decide +kernel
theorem dX12_isPlace_29 : decode cX12_isPlace 29 = .ok (.ifCond .eq 7, 3) := by decide +kernel
theorem dX12_isPlace_32 : decode cX12_isPlace 32 = .ok (.iconst 1, 1) := by decide +kernel
theorem dX12_isPlace_33 : decode cX12_isPlace 33 = .ok (.goto 4, 3) := by decide +kernel
theorem dX12_reads_0 : decode cX12_reads 0 = .ok (.aload_n 0, 1) := by decide +kernel
theorem dX12_reads_1 : decode cX12_reads 1 = .ok (.iload_n 1, 1) := by decide +kernel
theorem dX12_reads_2 : decode cX12_reads 2 = .ok (.invokevirtual 241, 3) := by decide +kernel
theorem dX12_reads_5 : decode cX12_reads 5 = .ok (.istore_n 2, 1) := by decide +kernel
theorem dX12_reads_6 : decode cX12_reads 6 = .ok (.iconst 0, 1) := by decide +kernel
theorem dX12_reads_7 : decode cX12_reads 7 = .ok (.istore_n 3, 1) := by decide +kernel
theorem dX12_reads_8 : decode cX12_reads 8 = .ok (.iconst 0, 1) := by decide +kernel
theorem dX12_reads_9 : decode cX12_reads 9 = .ok (.istore 4, 2) := by decide +kernel
theorem dX12_reads_11 : decode cX12_reads 11 = .ok (.iload 4, 2) := by decide +kernel
theorem dX12_reads_13 : decode cX12_reads 13 = .ok (.iconst 5, 1) := by decide +kernel
theorem dX12_reads_14 : decode cX12_reads 14 = .ok (.iadd, 1) := by decide +kernel
theorem dX12_reads_15 : decode cX12_reads 15 = .ok (.iload_n 2, 1) := by decide +kernel
theorem dX12_reads_16 : decode cX12_reads 16 = .ok (.if_icmp .gt 126, 3) := by decide +kernel
theorem dX12_reads_142 : decode cX12_reads 142 = .ok (.iconst (-1), 1) := by decide +kernel
theorem dX12_reads_143 : decode cX12_reads 143 = .ok (.ireturn, 1) := by decide +kernel
theorem dX12_reads_19 : decode cX12_reads 19 = .ok (.iconst 0, 1) := by decide +kernel
theorem dX12_reads_20 : decode cX12_reads 20 = .ok (.istore 5, 2) := by decide +kernel
theorem dX12_reads_22 : decode cX12_reads 22 = .ok (.iconst 1, 1) := by decide +kernel
theorem dX12_reads_23 : decode cX12_reads 23 = .ok (.istore 6, 2) := by decide +kernel
theorem dX12_reads_25 : decode cX12_reads 25 = .ok (.iconst 0, 1) := by decide +kernel
theorem dX12_reads_26 : decode cX12_reads 26 = .ok (.istore 7, 2) := by decide +kernel
theorem dX12_reads_28 : decode cX12_reads 28 = .ok (.iload 7, 2) := by decide +kernel
theorem dX12_reads_30 : decode cX12_reads 30 = .ok (.iconst 5, 1) := by decide +kernel
theorem dX12_reads_31 : decode cX12_reads 31 = .ok (.if_icmp .ge 48, 3) := by decide +kernel
theorem dX12_reads_79 : decode cX12_reads 79 = .ok (.iload 6, 2) := by decide +kernel
theorem dX12_reads_81 : decode cX12_reads 81 = .ok (.ifCond .eq 20, 3) := by decide +kernel
theorem dX12_reads_101 : decode cX12_reads 101 = .ok (.iload 6, 2) := by decide +kernel
theorem dX12_reads_103 : decode cX12_reads 103 = .ok (.ifCond .eq 12, 3) := by decide +kernel
theorem dX12_reads_115 : decode cX12_reads 115 = .ok (.aload_n 0, 1) := by decide +kernel
theorem dX12_reads_116 : decode cX12_reads 116 = .ok (.getfield 52, 3) := by decide +kernel
theorem dX12_reads_119 : decode cX12_reads 119 = .ok (.iload_n 3, 1) := by decide +kernel
theorem dX12_reads_120 : decode cX12_reads 120 = .ok (.iload 6, 2) := by decide +kernel
theorem dX12_reads_122 : decode cX12_reads 122 = .ok (.ifCond .eq 8, 3) := by decide +kernel
theorem dX12_reads_130 : decode cX12_reads 130 = .ok (.bipush 99, 2) := by decide +kernel
theorem dX12_reads_132 : decode cX12_reads 132 = .ok (.iastore, 1) := by decide +kernel
theorem dX12_reads_133 : decode cX12_reads 133 = .ok (.iinc 3 1, 3) := by decide +kernel
theorem dX12_reads_136 : decode cX12_reads 136 = .ok (.iinc 4 5, 3) := by decide +kernel
theorem dX12_reads_139 : decode cX12_reads 139 = .ok (.goto (-128), 3) := by decide +kernel
theorem dX12_reads_84 : decode cX12_reads 84 = .ok (.iload 5, 2) := by decide +kernel
theorem dX12_reads_86 : decode cX12_reads 86 = .ok (.bipush 31, 2) := by decide +kernel
theorem dX12_reads_88 : decode cX12_reads 88 = .ok (.if_icmp .ne 13, 3) := by decide +kernel
theorem dX12_reads_106 : decode cX12_reads 106 = .ok (.iload 5, 2) := by decide +kernel
theorem dX12_reads_108 : decode cX12_reads 108 = .ok (.bipush 26, 2) := by decide +kernel
theorem dX12_reads_110 : decode cX12_reads 110 = .ok (.if_icmp .le 5, 3) := by decide +kernel
theorem dX12_reads_125 : decode cX12_reads 125 = .ok (.iload 5, 2) := by decide +kernel
theorem dX12_reads_127 : decode cX12_reads 127 = .ok (.goto 5, 3) := by decide +kernel
theorem dX12_reads_113 : decode cX12_reads 113 = .ok (.iconst (-1), 1) := by decide +kernel
theorem dX12_reads_114 : decode cX12_reads 114 = .ok (.ireturn, 1) := by decide +kernel
theorem dX12_reads_91 : decode cX12_reads 91 = .ok (.iload_n 3, 1) := by decide +kernel
theorem dX12_reads_92 : decode cX12_reads 92 = .ok (.ifCond .ne 7, 3) := by decide +kernel
theorem dX12_reads_99 : decode cX12_reads 99 = .ok (.iload_n 3, 1) := by decide +kernel
theorem dX12_reads_100 : decode cX12_reads 100 = .ok (.ireturn, 1) := by decide +kernel
theorem dX12_reads_95 : decode cX12_reads 95 = .ok (.iconst (-1), 1) := by decide +kernel
theorem dX12_reads_96 : decode cX12_reads 96 = .ok (.goto 4, 3) := by decide +kernel
theorem dX12_reads_34 : decode cX12_reads 34 = .ok (.aload_n 0, 1) := by decide +kernel
theorem dX12_reads_35 : decode cX12_reads 35 = .ok (.iload_n 1, 1) := by decide +kernel
theorem dX12_reads_36 : decode cX12_reads 36 = .ok (.iload 4, 2) := by decide +kernel
theorem dX12_reads_38 : decode cX12_reads 38 = .ok (.iload 7, 2) := by decide +kernel
theorem dX12_reads_40 : decode cX12_reads 40 = .ok (.iadd, 1) := by decide +kernel
theorem dX12_reads_41 : decode cX12_reads 41 = .ok (.invokevirtual 370, 3) := by decide +kernel
theorem dX12_reads_44 : decode cX12_reads 44 = .ok (.istore 8, 2) := by decide +kernel
theorem dX12_reads_46 : decode cX12_reads 46 = .ok (.iload 6, 2) := by decide +kernel
theorem dX12_reads_48 : decode cX12_reads 48 = .ok (.ifCond .eq 13, 3) := by decide +kernel
theorem dX12_reads_61 : decode cX12_reads 61 = .ok (.iconst 0, 1) := by decide +kernel
theorem dX12_reads_62 : decode cX12_reads 62 = .ok (.istore 6, 2) := by decide +kernel
theorem dX12_reads_64 : decode cX12_reads 64 = .ok (.iconst 2, 1) := by decide +kernel
theorem dX12_reads_65 : decode cX12_reads 65 = .ok (.iload 5, 2) := by decide +kernel
theorem dX12_reads_67 : decode cX12_reads 67 = .ok (.imul, 1) := by decide +kernel
theorem dX12_reads_68 : decode cX12_reads 68 = .ok (.iload 8, 2) := by decide +kernel
theorem dX12_reads_70 : decode cX12_reads 70 = .ok (.iadd, 1) := by decide +kernel
theorem dX12_reads_71 : decode cX12_reads 71 = .ok (.istore 5, 2) := by decide +kernel
theorem dX12_reads_73 : decode cX12_reads 73 = .ok (.iinc 7 1, 3) := by decide +kernel
theorem dX12_reads_76 : decode cX12_reads 76 = .ok (.goto (-48), 3) := by decide +kernel
theorem dX12_reads_51 : decode cX12_reads 51 = .ok (.iload 8, 2) := by decide +kernel
theorem dX12_reads_53 : decode cX12_reads 53 = .ok (.iconst 2, 1) := by decide +kernel
theorem dX12_reads_54 : decode cX12_reads 54 = .ok (.if_icmp .ge 7, 3) := by decide +kernel
theorem dX12_reads_57 : decode cX12_reads 57 = .ok (.iconst 1, 1) := by decide +kernel
theorem dX12_reads_58 : decode cX12_reads 58 = .ok (.goto 4, 3) := by decide +kernel
theorem dX12_read_0 : decode cX12_read 0 = .ok (.aload_n 0, 1) := by decide +kernel
theorem dX12_read_1 : decode cX12_read 1 = .ok (.iload_n 1, 1) := by decide +kernel
theorem dX12_read_2 : decode cX12_read 2 = .ok (.iload_n 2, 1) := by decide +kernel
theorem dX12_read_3 : decode cX12_read 3 = .ok (.invokevirtual 357, 3) := by decide +kernel
theorem dX12_read_6 : decode cX12_read 6 = .ok (.istore_n 3, 1) := by decide +kernel
theorem dX12_read_7 : decode cX12_read 7 = .ok (.iload_n 3, 1) := by decide +kernel
theorem dX12_read_8 : decode cX12_read 8 = .ok (.ifCond .ge 5, 3) := by decide +kernel
theorem dX12_read_13 : decode cX12_read 13 = .ok (.aload_n 0, 1) := by decide +kernel
theorem dX12_read_14 : decode cX12_read 14 = .ok (.iload_n 1, 1) := by decide +kernel
theorem dX12_read_15 : decode cX12_read 15 = .ok (.invokevirtual 363, 3) := by decide +kernel
theorem dX12_read_18 : decode cX12_read 18 = .ok (.aload_n 0, 1) := by decide +kernel
theorem dX12_read_19 : decode cX12_read 19 = .ok (.iload_n 2, 1) := by decide +kernel
theorem dX12_read_20 : decode cX12_read 20 = .ok (.invokevirtual 373, 3) := by decide +kernel
theorem dX12_read_23 : decode cX12_read 23 = .ok (.istore 4, 2) := by decide +kernel
theorem dX12_read_25 : decode cX12_read 25 = .ok (.iload 4, 2) := by decide +kernel
theorem dX12_read_27 : decode cX12_read 27 = .ok (.iconst (-1), 1) := by decide +kernel
theorem dX12_read_28 : decode cX12_read 28 = .ok (.if_icmp .ne 5, 3) := by decide +kernel
theorem dX12_read_33 : decode cX12_read 33 = .ok (.aload_n 0, 1) := by decide +kernel
theorem dX12_read_34 : decode cX12_read 34 = .ok (.iload 4, 2) := by decide +kernel
theorem dX12_read_36 : decode cX12_read 36 = .ok (.putfield 49, 3) := by decide +kernel
theorem dX12_read_39 : decode cX12_read 39 = .ok (.iconst 0, 1) := by decide +kernel
theorem dX12_read_40 : decode cX12_read 40 = .ok (.istore 5, 2) := by decide +kernel
theorem dX12_read_42 : decode cX12_read 42 = .ok (.iload 5, 2) := by decide +kernel
theorem dX12_read_44 : decode cX12_read 44 = .ok (.iload 4, 2) := by decide +kernel
theorem dX12_read_46 : decode cX12_read 46 = .ok (.if_icmp .ge 23, 3) := by decide +kernel
theorem dX12_read_69 : decode cX12_read 69 = .ok (.iload 4, 2) := by decide +kernel
theorem dX12_read_71 : decode cX12_read 71 = .ok (.ireturn, 1) := by decide +kernel
theorem dX12_read_49 : decode cX12_read 49 = .ok (.aload_n 0, 1) := by decide +kernel
theorem dX12_read_50 : decode cX12_read 50 = .ok (.getfield 46, 3) := by decide +kernel
theorem dX12_read_53 : decode cX12_read 53 = .ok (.iload 5, 2) := by decide +kernel
theorem dX12_read_55 : decode cX12_read 55 = .ok (.aload_n 0, 1) := by decide +kernel
theorem dX12_read_56 : decode cX12_read 56 = .ok (.getfield 52, 3) := by decide +kernel
theorem dX12_read_59 : decode cX12_read 59 = .ok (.iload 5, 2) := by decide +kernel
theorem dX12_read_61 : decode cX12_read 61 = .ok (.iaload, 1) := by decide +kernel
theorem dX12_read_62 : decode cX12_read 62 = .ok (.iastore, 1) := by decide +kernel
theorem dX12_read_63 : decode cX12_read 63 = .ok (.iinc 5 1, 3) := by decide +kernel
theorem dX12_read_66 : decode cX12_read 66 = .ok (.goto (-24), 3) := by decide +kernel
theorem dX12_read_31 : decode cX12_read 31 = .ok (.iconst (-1), 1) := by decide +kernel
theorem dX12_read_32 : decode cX12_read 32 = .ok (.ireturn, 1) := by decide +kernel
theorem dX12_read_11 : decode cX12_read 11 = .ok (.iload_n 3, 1) := by decide +kernel
theorem dX12_read_12 : decode cX12_read 12 = .ok (.ireturn, 1) := by decide +kernel
theorem dX12_letter_0 : decode cX12_letter 0 = .ok (.iload_n 1, 1) := by decide +kernel
theorem dX12_letter_1 : decode cX12_letter 1 = .ok (.i2l, 1) := by decide +kernel
theorem dX12_letter_2 : decode cX12_letter 2 = .ok (.lconst 0, 1) := by decide +kernel
theorem dX12_letter_3 : decode cX12_letter 3 = .ok (.aload_n 0, 1) := by decide +kernel
theorem dX12_letter_4 : decode cX12_letter 4 = .ok (.getfield 49, 3) := by decide +kernel
theorem dX12_letter_7 : decode cX12_letter 7 = .ok (.iconst 1, 1) := by decide +kernel
theorem dX12_letter_8 : decode cX12_letter 8 = .ok (.isub, 1) := by decide +kernel
theorem dX12_letter_9 : decode cX12_letter 9 = .ok (.i2l, 1) := by decide +kernel
theorem dX12_letter_10 : decode cX12_letter 10 = .ok (.invokestatic 79, 3) := by decide +kernel
theorem dX12_letter_13 : decode cX12_letter 13 = .ok (.ifCond .ne 5, 3) := by decide +kernel
theorem dX12_letter_18 : decode cX12_letter 18 = .ok (.aload_n 0, 1) := by decide +kernel
theorem dX12_letter_19 : decode cX12_letter 19 = .ok (.getfield 46, 3) := by decide +kernel
theorem dX12_letter_22 : decode cX12_letter 22 = .ok (.iload_n 1, 1) := by decide +kernel
theorem dX12_letter_23 : decode cX12_letter 23 = .ok (.iaload, 1) := by decide +kernel
theorem dX12_letter_24 : decode cX12_letter 24 = .ok (.bipush 99, 2) := by decide +kernel
theorem dX12_letter_26 : decode cX12_letter 26 = .ok (.if_icmp .ne 8, 3) := by decide +kernel
theorem dX12_letter_34 : decode cX12_letter 34 = .ok (.aload_n 0, 1) := by decide +kernel
theorem dX12_letter_35 : decode cX12_letter 35 = .ok (.getfield 46, 3) := by decide +kernel
theorem dX12_letter_38 : decode cX12_letter 38 = .ok (.iload_n 1, 1) := by decide +kernel
theorem dX12_letter_39 : decode cX12_letter 39 = .ok (.iaload, 1) := by decide +kernel
theorem dX12_letter_40 : decode cX12_letter 40 = .ok (.ifCond .ne 8, 3) := by decide +kernel
theorem dX12_letter_48 : decode cX12_letter 48 = .ok (.bipush 97, 2) := by decide +kernel
theorem dX12_letter_50 : decode cX12_letter 50 = .ok (.aload_n 0, 1) := by decide +kernel
theorem dX12_letter_51 : decode cX12_letter 51 = .ok (.getfield 46, 3) := by decide +kernel
theorem dX12_letter_54 : decode cX12_letter 54 = .ok (.iload_n 1, 1) := by decide +kernel
theorem dX12_letter_55 : decode cX12_letter 55 = .ok (.iaload, 1) := by decide +kernel
theorem dX12_letter_56 : decode cX12_letter 56 = .ok (.iadd, 1) := by decide +kernel
theorem dX12_letter_57 : decode cX12_letter 57 = .ok (.iconst 1, 1) := by decide +kernel
theorem dX12_letter_58 : decode cX12_letter 58 = .ok (.isub, 1) := by decide +kernel
theorem dX12_letter_59 : decode cX12_letter 59 = .ok (.ireturn, 1) := by decide +kernel
theorem dX12_letter_43 : decode cX12_letter 43 = .ok (.bipush 32, 2) := by decide +kernel
theorem dX12_letter_45 : decode cX12_letter 45 = .ok (.goto 14, 3) := by decide +kernel
theorem dX12_letter_29 : decode cX12_letter 29 = .ok (.bipush 63, 2) := by decide +kernel
theorem dX12_letter_31 : decode cX12_letter 31 = .ok (.goto 28, 3) := by decide +kernel
theorem dX12_letter_16 : decode cX12_letter 16 = .ok (.iconst (-1), 1) := by decide +kernel
theorem dX12_letter_17 : decode cX12_letter 17 = .ok (.ireturn, 1) := by decide +kernel
theorem dX12_bit_0 : decode cX12_bit 0 = .ok (.aload_n 0, 1) := by decide +kernel
theorem dX12_bit_1 : decode cX12_bit 1 = .ok (.iload_n 1, 1) := by decide +kernel
theorem dX12_bit_2 : decode cX12_bit 2 = .ok (.iload_n 2, 1) := by decide +kernel
theorem dX12_bit_3 : decode cX12_bit 3 = .ok (.invokevirtual 357, 3) := by decide +kernel
theorem dX12_bit_6 : decode cX12_bit 6 = .ok (.istore 4, 2) := by decide +kernel
theorem dX12_bit_8 : decode cX12_bit 8 = .ok (.iload 4, 2) := by decide +kernel
theorem dX12_bit_10 : decode cX12_bit 10 = .ok (.ifCond .ge 6, 3) := by decide +kernel
theorem dX12_bit_16 : decode cX12_bit 16 = .ok (.aload_n 0, 1) := by decide +kernel
theorem dX12_bit_17 : decode cX12_bit 17 = .ok (.iload_n 1, 1) := by decide +kernel
theorem dX12_bit_18 : decode cX12_bit 18 = .ok (.invokevirtual 363, 3) := by decide +kernel
theorem dX12_bit_21 : decode cX12_bit 21 = .ok (.iload_n 3, 1) := by decide +kernel
theorem dX12_bit_22 : decode cX12_bit 22 = .ok (.i2l, 1) := by decide +kernel
theorem dX12_bit_23 : decode cX12_bit 23 = .ok (.lconst 0, 1) := by decide +kernel
theorem dX12_bit_24 : decode cX12_bit 24 = .ok (.aload_n 0, 1) := by decide +kernel
theorem dX12_bit_25 : decode cX12_bit 25 = .ok (.iload_n 2, 1) := by decide +kernel
theorem dX12_bit_26 : decode cX12_bit 26 = .ok (.invokevirtual 241, 3) := by decide +kernel
theorem dX12_bit_29 : decode cX12_bit 29 = .ok (.iconst 1, 1) := by decide +kernel
theorem dX12_bit_30 : decode cX12_bit 30 = .ok (.isub, 1) := by decide +kernel
theorem dX12_bit_31 : decode cX12_bit 31 = .ok (.i2l, 1) := by decide +kernel
theorem dX12_bit_32 : decode cX12_bit 32 = .ok (.invokestatic 79, 3) := by decide +kernel
theorem dX12_bit_35 : decode cX12_bit 35 = .ok (.ifCond .eq 12, 3) := by decide +kernel
theorem dX12_bit_47 : decode cX12_bit 47 = .ok (.iconst (-1), 1) := by decide +kernel
theorem dX12_bit_48 : decode cX12_bit 48 = .ok (.ireturn, 1) := by decide +kernel
theorem dX12_bit_38 : decode cX12_bit 38 = .ok (.aload_n 0, 1) := by decide +kernel
theorem dX12_bit_39 : decode cX12_bit 39 = .ok (.iload_n 2, 1) := by decide +kernel
theorem dX12_bit_40 : decode cX12_bit 40 = .ok (.iload_n 3, 1) := by decide +kernel
theorem dX12_bit_41 : decode cX12_bit 41 = .ok (.invokevirtual 370, 3) := by decide +kernel
theorem dX12_bit_44 : decode cX12_bit 44 = .ok (.goto 4, 3) := by decide +kernel
theorem dX12_bit_13 : decode cX12_bit 13 = .ok (.iload 4, 2) := by decide +kernel
theorem dX12_bit_15 : decode cX12_bit 15 = .ok (.ireturn, 1) := by decide +kernel
theorem dX12_dim_0 : decode cX12_dim 0 = .ok (.aload_n 0, 1) := by decide +kernel
theorem dX12_dim_1 : decode cX12_dim 1 = .ok (.iload_n 1, 1) := by decide +kernel
theorem dX12_dim_2 : decode cX12_dim 2 = .ok (.iload_n 2, 1) := by decide +kernel
theorem dX12_dim_3 : decode cX12_dim 3 = .ok (.invokevirtual 357, 3) := by decide +kernel
theorem dX12_dim_6 : decode cX12_dim 6 = .ok (.istore_n 3, 1) := by decide +kernel
theorem dX12_dim_7 : decode cX12_dim 7 = .ok (.iload_n 3, 1) := by decide +kernel
theorem dX12_dim_8 : decode cX12_dim 8 = .ok (.ifCond .ge 5, 3) := by decide +kernel
theorem dX12_dim_13 : decode cX12_dim 13 = .ok (.aload_n 0, 1) := by decide +kernel
theorem dX12_dim_14 : decode cX12_dim 14 = .ok (.iload_n 1, 1) := by decide +kernel
theorem dX12_dim_15 : decode cX12_dim 15 = .ok (.invokevirtual 363, 3) := by decide +kernel
theorem dX12_dim_18 : decode cX12_dim 18 = .ok (.aload_n 0, 1) := by decide +kernel
theorem dX12_dim_19 : decode cX12_dim 19 = .ok (.iload_n 2, 1) := by decide +kernel
theorem dX12_dim_20 : decode cX12_dim 20 = .ok (.invokevirtual 241, 3) := by decide +kernel
theorem dX12_dim_23 : decode cX12_dim 23 = .ok (.istore 4, 2) := by decide +kernel
theorem dX12_dim_25 : decode cX12_dim 25 = .ok (.iconst 0, 1) := by decide +kernel
theorem dX12_dim_26 : decode cX12_dim 26 = .ok (.istore 5, 2) := by decide +kernel
theorem dX12_dim_28 : decode cX12_dim 28 = .ok (.iconst 0, 1) := by decide +kernel
theorem dX12_dim_29 : decode cX12_dim 29 = .ok (.istore 6, 2) := by decide +kernel
theorem dX12_dim_31 : decode cX12_dim 31 = .ok (.iload 6, 2) := by decide +kernel
theorem dX12_dim_33 : decode cX12_dim 33 = .ok (.iload 4, 2) := by decide +kernel
theorem dX12_dim_35 : decode cX12_dim 35 = .ok (.if_icmp .ge 30, 3) := by decide +kernel
theorem dX12_dim_65 : decode cX12_dim 65 = .ok (.iload 5, 2) := by decide +kernel
theorem dX12_dim_67 : decode cX12_dim 67 = .ok (.ireturn, 1) := by decide +kernel
theorem dX12_dim_38 : decode cX12_dim 38 = .ok (.iload 5, 2) := by decide +kernel
theorem dX12_dim_40 : decode cX12_dim 40 = .ok (.aload_n 0, 1) := by decide +kernel
theorem dX12_dim_41 : decode cX12_dim 41 = .ok (.iload_n 2, 1) := by decide +kernel
theorem dX12_dim_42 : decode cX12_dim 42 = .ok (.iload 6, 2) := by decide +kernel
theorem dX12_dim_44 : decode cX12_dim 44 = .ok (.invokevirtual 370, 3) := by decide +kernel
theorem dX12_dim_47 : decode cX12_dim 47 = .ok (.iconst 2, 1) := by decide +kernel
theorem dX12_dim_48 : decode cX12_dim 48 = .ok (.if_icmp .ne 7, 3) := by decide +kernel
theorem dX12_dim_55 : decode cX12_dim 55 = .ok (.iconst 0, 1) := by decide +kernel
theorem dX12_dim_56 : decode cX12_dim 56 = .ok (.iadd, 1) := by decide +kernel
theorem dX12_dim_57 : decode cX12_dim 57 = .ok (.istore 5, 2) := by decide +kernel
theorem dX12_dim_59 : decode cX12_dim 59 = .ok (.iinc 6 1, 3) := by decide +kernel
theorem dX12_dim_62 : decode cX12_dim 62 = .ok (.goto (-31), 3) := by decide +kernel
theorem dX12_dim_51 : decode cX12_dim 51 = .ok (.iconst 1, 1) := by decide +kernel
theorem dX12_dim_52 : decode cX12_dim 52 = .ok (.goto 4, 3) := by decide +kernel
theorem dX12_dim_11 : decode cX12_dim 11 = .ok (.iload_n 3, 1) := by decide +kernel
theorem dX12_dim_12 : decode cX12_dim 12 = .ok (.ireturn, 1) := by decide +kernel
theorem dX12_says_0 : decode cX12_says 0 = .ok (.aload_n 0, 1) := by decide +kernel
theorem dX12_says_1 : decode cX12_says 1 = .ok (.iload_n 1, 1) := by decide +kernel
theorem dX12_says_2 : decode cX12_says 2 = .ok (.invokevirtual 376, 3) := by decide +kernel
theorem dX12_says_5 : decode cX12_says 5 = .ok (.istore_n 2, 1) := by decide +kernel
theorem dX12_says_6 : decode cX12_says 6 = .ok (.iload_n 2, 1) := by decide +kernel
theorem dX12_says_7 : decode cX12_says 7 = .ok (.ifCond .ge 5, 3) := by decide +kernel
theorem dX12_says_12 : decode cX12_says 12 = .ok (.aload_n 0, 1) := by decide +kernel
theorem dX12_says_13 : decode cX12_says 13 = .ok (.iload_n 1, 1) := by decide +kernel
theorem dX12_says_14 : decode cX12_says 14 = .ok (.invokevirtual 363, 3) := by decide +kernel
theorem dX12_says_17 : decode cX12_says 17 = .ok (.iconst 0, 1) := by decide +kernel
theorem dX12_says_18 : decode cX12_says 18 = .ok (.istore_n 3, 1) := by decide +kernel
theorem dX12_says_19 : decode cX12_says 19 = .ok (.iconst 0, 1) := by decide +kernel
theorem dX12_says_20 : decode cX12_says 20 = .ok (.istore 4, 2) := by decide +kernel
theorem dX12_says_22 : decode cX12_says 22 = .ok (.iload 4, 2) := by decide +kernel
theorem dX12_says_24 : decode cX12_says 24 = .ok (.bipush 6, 2) := by decide +kernel
theorem dX12_says_26 : decode cX12_says 26 = .ok (.if_icmp .ge 39, 3) := by decide +kernel
theorem dX12_says_65 : decode cX12_says 65 = .ok (.iload_n 3, 1) := by decide +kernel
theorem dX12_says_66 : decode cX12_says 66 = .ok (.ireturn, 1) := by decide +kernel
theorem dX12_says_29 : decode cX12_says 29 = .ok (.iload_n 3, 1) := by decide +kernel
theorem dX12_says_30 : decode cX12_says 30 = .ok (.aload_n 0, 1) := by decide +kernel
theorem dX12_says_31 : decode cX12_says 31 = .ok (.iload 4, 2) := by decide +kernel
theorem dX12_says_33 : decode cX12_says 33 = .ok (.invokevirtual 354, 3) := by decide +kernel
theorem dX12_says_36 : decode cX12_says 36 = .ok (.ifCond .eq 20, 3) := by decide +kernel
theorem dX12_says_56 : decode cX12_says 56 = .ok (.iconst 0, 1) := by decide +kernel
theorem dX12_says_57 : decode cX12_says 57 = .ok (.ior, 1) := by decide +kernel
theorem dX12_says_58 : decode cX12_says 58 = .ok (.istore_n 3, 1) := by decide +kernel
theorem dX12_says_59 : decode cX12_says 59 = .ok (.iinc 4 1, 3) := by decide +kernel
theorem dX12_says_62 : decode cX12_says 62 = .ok (.goto (-40), 3) := by decide +kernel
theorem dX12_says_39 : decode cX12_says 39 = .ok (.aload_n 0, 1) := by decide +kernel
theorem dX12_says_40 : decode cX12_says 40 = .ok (.iload 4, 2) := by decide +kernel
theorem dX12_says_42 : decode cX12_says 42 = .ok (.invokevirtual 373, 3) := by decide +kernel
theorem dX12_says_45 : decode cX12_says 45 = .ok (.iconst (-1), 1) := by decide +kernel
theorem dX12_says_46 : decode cX12_says 46 = .ok (.if_icmp .eq 10, 3) := by decide +kernel
theorem dX12_says_49 : decode cX12_says 49 = .ok (.iconst 1, 1) := by decide +kernel
theorem dX12_says_50 : decode cX12_says 50 = .ok (.iload 4, 2) := by decide +kernel
theorem dX12_says_52 : decode cX12_says 52 = .ok (.ishl, 1) := by decide +kernel
theorem dX12_says_53 : decode cX12_says 53 = .ok (.goto 4, 3) := by decide +kernel
theorem dX12_says_10 : decode cX12_says 10 = .ok (.iload_n 2, 1) := by decide +kernel
theorem dX12_says_11 : decode cX12_says 11 = .ok (.ireturn, 1) := by decide +kernel
theorem dX12_at_0 : decode cX12_at 0 = .ok (.iload_n 1, 1) := by decide +kernel
theorem dX12_at_1 : decode cX12_at 1 = .ok (.invokestatic 319, 3) := by decide +kernel
theorem dX12_at_4 : decode cX12_at 4 = .ok (.ifCond .eq 36, 3) := by decide +kernel
theorem dX12_at_40 : decode cX12_at 40 = .ok (.iconst (-1), 1) := by decide +kernel
theorem dX12_at_41 : decode cX12_at 41 = .ok (.ireturn, 1) := by decide +kernel
theorem dX12_at_7 : decode cX12_at 7 = .ok (.aload_n 0, 1) := by decide +kernel
theorem dX12_at_8 : decode cX12_at 8 = .ok (.iload_n 1, 1) := by decide +kernel
theorem dX12_at_9 : decode cX12_at 9 = .ok (.invokevirtual 351, 3) := by decide +kernel
theorem dX12_at_12 : decode cX12_at 12 = .ok (.ifCond .eq 28, 3) := by decide +kernel
theorem dX12_at_15 : decode cX12_at 15 = .ok (.aload_n 0, 1) := by decide +kernel
theorem dX12_at_16 : decode cX12_at 16 = .ok (.iload_n 2, 1) := by decide +kernel
theorem dX12_at_17 : decode cX12_at 17 = .ok (.iload_n 3, 1) := by decide +kernel
theorem dX12_at_18 : decode cX12_at 18 = .ok (.invokevirtual 379, 3) := by decide +kernel
theorem dX12_at_21 : decode cX12_at 21 = .ok (.ifCond .eq 19, 3) := by decide +kernel
theorem dX12_at_24 : decode cX12_at 24 = .ok (.aload_n 0, 1) := by decide +kernel
theorem dX12_at_25 : decode cX12_at 25 = .ok (.iload_n 1, 1) := by decide +kernel
theorem dX12_at_26 : decode cX12_at 26 = .ok (.iload_n 2, 1) := by decide +kernel
theorem dX12_at_27 : decode cX12_at 27 = .ok (.aload_n 0, 1) := by decide +kernel
theorem dX12_at_28 : decode cX12_at 28 = .ok (.invokevirtual 87, 3) := by decide +kernel
theorem dX12_at_31 : decode cX12_at 31 = .ok (.imul, 1) := by decide +kernel
theorem dX12_at_32 : decode cX12_at 32 = .ok (.iload_n 3, 1) := by decide +kernel
theorem dX12_at_33 : decode cX12_at 33 = .ok (.iadd, 1) := by decide +kernel
theorem dX12_at_34 : decode cX12_at 34 = .ok (.invokevirtual 301, 3) := by decide +kernel
theorem dX12_at_37 : decode cX12_at 37 = .ok (.goto 4, 3) := by decide +kernel
theorem dX12_sort_0 : decode cX12_sort 0 = .ok (.aload_n 0, 1) := by decide +kernel
theorem dX12_sort_1 : decode cX12_sort 1 = .ok (.iload_n 1, 1) := by decide +kernel
theorem dX12_sort_2 : decode cX12_sort 2 = .ok (.iload_n 2, 1) := by decide +kernel
theorem dX12_sort_3 : decode cX12_sort 3 = .ok (.invokevirtual 379, 3) := by decide +kernel
theorem dX12_sort_6 : decode cX12_sort 6 = .ok (.ifCond .eq 18, 3) := by decide +kernel
theorem dX12_sort_24 : decode cX12_sort 24 = .ok (.iconst (-1), 1) := by decide +kernel
theorem dX12_sort_25 : decode cX12_sort 25 = .ok (.ireturn, 1) := by decide +kernel
theorem dX12_sort_9 : decode cX12_sort 9 = .ok (.aload_n 0, 1) := by decide +kernel
theorem dX12_sort_10 : decode cX12_sort 10 = .ok (.iload_n 1, 1) := by decide +kernel
theorem dX12_sort_11 : decode cX12_sort 11 = .ok (.aload_n 0, 1) := by decide +kernel
theorem dX12_sort_12 : decode cX12_sort 12 = .ok (.invokevirtual 87, 3) := by decide +kernel
theorem dX12_sort_15 : decode cX12_sort 15 = .ok (.imul, 1) := by decide +kernel
theorem dX12_sort_16 : decode cX12_sort 16 = .ok (.iload_n 2, 1) := by decide +kernel
theorem dX12_sort_17 : decode cX12_sort 17 = .ok (.iadd, 1) := by decide +kernel
theorem dX12_sort_18 : decode cX12_sort 18 = .ok (.invokevirtual 98, 3) := by decide +kernel
theorem dX12_sort_21 : decode cX12_sort 21 = .ok (.goto 4, 3) := by decide +kernel
theorem dX12_place_0 : decode cX12_place 0 = .ok (.aload_n 0, 1) := by decide +kernel
theorem dX12_place_1 : decode cX12_place 1 = .ok (.iload_n 1, 1) := by decide +kernel
theorem dX12_place_2 : decode cX12_place 2 = .ok (.invokevirtual 383, 3) := by decide +kernel
theorem dX12_place_5 : decode cX12_place 5 = .ok (.istore_n 3, 1) := by decide +kernel
theorem dX12_place_6 : decode cX12_place 6 = .ok (.iload_n 3, 1) := by decide +kernel
theorem dX12_place_7 : decode cX12_place 7 = .ok (.ifCond .ge 5, 3) := by decide +kernel
theorem dX12_place_12 : decode cX12_place 12 = .ok (.aload_n 0, 1) := by decide +kernel
theorem dX12_place_13 : decode cX12_place 13 = .ok (.iload_n 1, 1) := by decide +kernel
theorem dX12_place_14 : decode cX12_place 14 = .ok (.invokevirtual 338, 3) := by decide +kernel
theorem dX12_place_17 : decode cX12_place 17 = .ok (.iload_n 2, 1) := by decide +kernel
theorem dX12_place_18 : decode cX12_place 18 = .ok (.i2l, 1) := by decide +kernel
theorem dX12_place_19 : decode cX12_place 19 = .ok (.lconst 0, 1) := by decide +kernel
theorem dX12_place_20 : decode cX12_place 20 = .ok (.aload_n 0, 1) := by decide +kernel
theorem dX12_place_21 : decode cX12_place 21 = .ok (.getfield 335, 3) := by decide +kernel
theorem dX12_place_24 : decode cX12_place 24 = .ok (.iconst 1, 1) := by decide +kernel
theorem dX12_place_25 : decode cX12_place 25 = .ok (.isub, 1) := by decide +kernel
theorem dX12_place_26 : decode cX12_place 26 = .ok (.i2l, 1) := by decide +kernel
theorem dX12_place_27 : decode cX12_place 27 = .ok (.invokestatic 79, 3) := by decide +kernel
theorem dX12_place_30 : decode cX12_place 30 = .ok (.ifCond .eq 32, 3) := by decide +kernel
theorem dX12_place_62 : decode cX12_place 62 = .ok (.iconst (-1), 1) := by decide +kernel
theorem dX12_place_63 : decode cX12_place 63 = .ok (.ireturn, 1) := by decide +kernel
theorem dX12_place_33 : decode cX12_place 33 = .ok (.bipush 100, 2) := by decide +kernel
theorem dX12_place_35 : decode cX12_place 35 = .ok (.aload_n 0, 1) := by decide +kernel
theorem dX12_place_36 : decode cX12_place 36 = .ok (.getfield 40, 3) := by decide +kernel
theorem dX12_place_39 : decode cX12_place 39 = .ok (.iload_n 2, 1) := by decide +kernel
theorem dX12_place_40 : decode cX12_place 40 = .ok (.iaload, 1) := by decide +kernel
theorem dX12_place_41 : decode cX12_place 41 = .ok (.aload_n 0, 1) := by decide +kernel
theorem dX12_place_42 : decode cX12_place 42 = .ok (.invokevirtual 87, 3) := by decide +kernel
theorem dX12_place_45 : decode cX12_place 45 = .ok (.idiv, 1) := by decide +kernel
theorem dX12_place_46 : decode cX12_place 46 = .ok (.imul, 1) := by decide +kernel
theorem dX12_place_47 : decode cX12_place 47 = .ok (.aload_n 0, 1) := by decide +kernel
theorem dX12_place_48 : decode cX12_place 48 = .ok (.getfield 40, 3) := by decide +kernel
theorem dX12_place_51 : decode cX12_place 51 = .ok (.iload_n 2, 1) := by decide +kernel
theorem dX12_place_52 : decode cX12_place 52 = .ok (.iaload, 1) := by decide +kernel
theorem dX12_place_53 : decode cX12_place 53 = .ok (.aload_n 0, 1) := by decide +kernel
theorem dX12_place_54 : decode cX12_place 54 = .ok (.invokevirtual 87, 3) := by decide +kernel
theorem dX12_place_57 : decode cX12_place 57 = .ok (.irem, 1) := by decide +kernel
theorem dX12_place_58 : decode cX12_place 58 = .ok (.iadd, 1) := by decide +kernel
theorem dX12_place_59 : decode cX12_place 59 = .ok (.goto 4, 3) := by decide +kernel
theorem dX12_place_10 : decode cX12_place 10 = .ok (.iload_n 3, 1) := by decide +kernel
theorem dX12_place_11 : decode cX12_place 11 = .ok (.ireturn, 1) := by decide +kernel
theorem dX12_room_0 : decode cX12_room 0 = .ok (.aload_n 0, 1) := by decide +kernel
theorem dX12_room_1 : decode cX12_room 1 = .ok (.iload_n 1, 1) := by decide +kernel
theorem dX12_room_2 : decode cX12_room 2 = .ok (.invokevirtual 383, 3) := by decide +kernel
theorem dX12_room_5 : decode cX12_room 5 = .ok (.istore_n 2, 1) := by decide +kernel
theorem dX12_room_6 : decode cX12_room 6 = .ok (.iload_n 2, 1) := by decide +kernel
theorem dX12_room_7 : decode cX12_room 7 = .ok (.ifCond .ge 7, 3) := by decide +kernel
theorem dX12_room_14 : decode cX12_room 14 = .ok (.aload_n 0, 1) := by decide +kernel
theorem dX12_room_15 : decode cX12_room 15 = .ok (.iload_n 1, 1) := by decide +kernel
theorem dX12_room_16 : decode cX12_room 16 = .ok (.invokevirtual 241, 3) := by decide +kernel
theorem dX12_room_19 : decode cX12_room 19 = .ok (.ireturn, 1) := by decide +kernel
theorem dX12_room_10 : decode cX12_room 10 = .ok (.iload_n 2, 1) := by decide +kernel
theorem dX12_room_11 : decode cX12_room 11 = .ok (.goto 8, 3) := by decide +kernel
theorem dX12_most_0 : decode cX12_most 0 = .ok (.aload_n 0, 1) := by decide +kernel
theorem dX12_most_1 : decode cX12_most 1 = .ok (.iload_n 1, 1) := by decide +kernel
theorem dX12_most_2 : decode cX12_most 2 = .ok (.invokevirtual 383, 3) := by decide +kernel
theorem dX12_most_5 : decode cX12_most 5 = .ok (.istore_n 2, 1) := by decide +kernel
theorem dX12_most_6 : decode cX12_most 6 = .ok (.iload_n 2, 1) := by decide +kernel
theorem dX12_most_7 : decode cX12_most 7 = .ok (.ifCond .ge 7, 3) := by decide +kernel
theorem dX12_most_14 : decode cX12_most 14 = .ok (.iconst 0, 1) := by decide +kernel
theorem dX12_most_15 : decode cX12_most 15 = .ok (.aload_n 0, 1) := by decide +kernel
theorem dX12_most_16 : decode cX12_most 16 = .ok (.iload_n 1, 1) := by decide +kernel
theorem dX12_most_17 : decode cX12_most 17 = .ok (.invokevirtual 241, 3) := by decide +kernel
theorem dX12_most_20 : decode cX12_most 20 = .ok (.iconst 5, 1) := by decide +kernel
theorem dX12_most_21 : decode cX12_most 21 = .ok (.idiv, 1) := by decide +kernel
theorem dX12_most_22 : decode cX12_most 22 = .ok (.iconst 1, 1) := by decide +kernel
theorem dX12_most_23 : decode cX12_most 23 = .ok (.isub, 1) := by decide +kernel
theorem dX12_most_24 : decode cX12_most 24 = .ok (.invokestatic 386, 3) := by decide +kernel
theorem dX12_most_27 : decode cX12_most 27 = .ok (.ireturn, 1) := by decide +kernel
theorem dX12_most_10 : decode cX12_most 10 = .ok (.iload_n 2, 1) := by decide +kernel
theorem dX12_most_11 : decode cX12_most 11 = .ok (.goto 16, 3) := by decide +kernel
theorem dX12_countAll_0 : decode cX12_countAll 0 = .ok (.iconst 0, 1) := by decide +kernel
theorem dX12_countAll_1 : decode cX12_countAll 1 = .ok (.istore_n 1, 1) := by decide +kernel
theorem dX12_countAll_2 : decode cX12_countAll 2 = .ok (.iload_n 1, 1) := by decide +kernel
theorem dX12_countAll_3 : decode cX12_countAll 3 = .ok (.bipush 8, 2) := by decide +kernel
theorem dX12_countAll_5 : decode cX12_countAll 5 = .ok (.if_icmp .ge 16, 3) := by decide +kernel
theorem dX12_countAll_21 : decode cX12_countAll 21 = .ok (.aload_n 0, 1) := by decide +kernel
theorem dX12_countAll_22 : decode cX12_countAll 22 = .ok (.getfield 55, 3) := by decide +kernel
theorem dX12_countAll_25 : decode cX12_countAll 25 = .ok (.iconst 5, 1) := by decide +kernel
theorem dX12_countAll_26 : decode cX12_countAll 26 = .ok (.sipush 256, 3) := by decide +kernel
theorem dX12_countAll_29 : decode cX12_countAll 29 = .ok (.iastore, 1) := by decide +kernel
theorem dX12_countAll_30 : decode cX12_countAll 30 = .ok (.iconst 4, 1) := by decide +kernel
theorem dX12_countAll_31 : decode cX12_countAll 31 = .ok (.istore_n 1, 1) := by decide +kernel
theorem dX12_countAll_32 : decode cX12_countAll 32 = .ok (.iconst 0, 1) := by decide +kernel
theorem dX12_countAll_33 : decode cX12_countAll 33 = .ok (.istore_n 2, 1) := by decide +kernel
theorem dX12_countAll_34 : decode cX12_countAll 34 = .ok (.iload_n 2, 1) := by decide +kernel
theorem dX12_countAll_35 : decode cX12_countAll 35 = .ok (.aload_n 0, 1) := by decide +kernel
theorem dX12_countAll_36 : decode cX12_countAll 36 = .ok (.invokevirtual 83, 3) := by decide +kernel
theorem dX12_countAll_39 : decode cX12_countAll 39 = .ok (.if_icmp .ge 217, 3) := by decide +kernel
theorem dX12_countAll_256 : decode cX12_countAll 256 = .ok (.return_, 1) := by decide +kernel
theorem dX12_countAll_42 : decode cX12_countAll 42 = .ok (.iconst 0, 1) := by decide +kernel
theorem dX12_countAll_43 : decode cX12_countAll 43 = .ok (.istore_n 3, 1) := by decide +kernel
theorem dX12_countAll_44 : decode cX12_countAll 44 = .ok (.iconst 0, 1) := by decide +kernel
theorem dX12_countAll_45 : decode cX12_countAll 45 = .ok (.istore 4, 2) := by decide +kernel
theorem dX12_countAll_47 : decode cX12_countAll 47 = .ok (.iload 4, 2) := by decide +kernel
theorem dX12_countAll_49 : decode cX12_countAll 49 = .ok (.aload_n 0, 1) := by decide +kernel
theorem dX12_countAll_50 : decode cX12_countAll 50 = .ok (.invokevirtual 87, 3) := by decide +kernel
theorem dX12_countAll_53 : decode cX12_countAll 53 = .ok (.if_icmp .ge 165, 3) := by decide +kernel
theorem dX12_countAll_218 : decode cX12_countAll 218 = .ok (.aload_n 0, 1) := by decide +kernel
theorem dX12_countAll_219 : decode cX12_countAll 219 = .ok (.getfield 55, 3) := by decide +kernel
theorem dX12_countAll_222 : decode cX12_countAll 222 = .ok (.iconst 4, 1) := by decide +kernel
theorem dX12_countAll_223 : decode cX12_countAll 223 = .ok (.aload_n 0, 1) := by decide +kernel
theorem dX12_countAll_224 : decode cX12_countAll 224 = .ok (.getfield 55, 3) := by decide +kernel
theorem dX12_countAll_227 : decode cX12_countAll 227 = .ok (.iconst 4, 1) := by decide +kernel
theorem dX12_countAll_228 : decode cX12_countAll 228 = .ok (.iaload, 1) := by decide +kernel
theorem dX12_countAll_229 : decode cX12_countAll 229 = .ok (.iload_n 3, 1) := by decide +kernel
theorem dX12_countAll_230 : decode cX12_countAll 230 = .ok (.invokestatic 386, 3) := by decide +kernel
theorem dX12_countAll_233 : decode cX12_countAll 233 = .ok (.iastore, 1) := by decide +kernel
theorem dX12_countAll_234 : decode cX12_countAll 234 = .ok (.aload_n 0, 1) := by decide +kernel
theorem dX12_countAll_235 : decode cX12_countAll 235 = .ok (.getfield 55, 3) := by decide +kernel
theorem dX12_countAll_238 : decode cX12_countAll 238 = .ok (.iconst 5, 1) := by decide +kernel
theorem dX12_countAll_239 : decode cX12_countAll 239 = .ok (.aload_n 0, 1) := by decide +kernel
theorem dX12_countAll_240 : decode cX12_countAll 240 = .ok (.getfield 55, 3) := by decide +kernel
theorem dX12_countAll_243 : decode cX12_countAll 243 = .ok (.iconst 5, 1) := by decide +kernel
theorem dX12_countAll_244 : decode cX12_countAll 244 = .ok (.iaload, 1) := by decide +kernel
theorem dX12_countAll_245 : decode cX12_countAll 245 = .ok (.iload_n 3, 1) := by decide +kernel
theorem dX12_countAll_246 : decode cX12_countAll 246 = .ok (.invokestatic 134, 3) := by decide +kernel
theorem dX12_countAll_249 : decode cX12_countAll 249 = .ok (.iastore, 1) := by decide +kernel
theorem dX12_countAll_250 : decode cX12_countAll 250 = .ok (.iinc 2 1, 3) := by decide +kernel
theorem dX12_countAll_253 : decode cX12_countAll 253 = .ok (.goto (-219), 3) := by decide +kernel
theorem dX12_countAll_56 : decode cX12_countAll 56 = .ok (.iload_n 2, 1) := by decide +kernel
theorem dX12_countAll_57 : decode cX12_countAll 57 = .ok (.aload_n 0, 1) := by decide +kernel
theorem dX12_countAll_58 : decode cX12_countAll 58 = .ok (.invokevirtual 87, 3) := by decide +kernel
theorem dX12_countAll_61 : decode cX12_countAll 61 = .ok (.imul, 1) := by decide +kernel
theorem dX12_countAll_62 : decode cX12_countAll 62 = .ok (.iload 4, 2) := by decide +kernel
theorem dX12_countAll_64 : decode cX12_countAll 64 = .ok (.iadd, 1) := by decide +kernel
theorem dX12_countAll_65 : decode cX12_countAll 65 = .ok (.istore 5, 2) := by decide +kernel
theorem dX12_countAll_67 : decode cX12_countAll 67 = .ok (.aload_n 0, 1) := by decide +kernel
theorem dX12_countAll_68 : decode cX12_countAll 68 = .ok (.getfield 37, 3) := by decide +kernel
theorem dX12_countAll_71 : decode cX12_countAll 71 = .ok (.iload 5, 2) := by decide +kernel
theorem dX12_countAll_73 : decode cX12_countAll 73 = .ok (.iaload, 1) := by decide +kernel
theorem dX12_countAll_74 : decode cX12_countAll 74 = .ok (.istore 6, 2) := by decide +kernel
theorem dX12_countAll_76 : decode cX12_countAll 76 = .ok (.aload_n 0, 1) := by decide +kernel
theorem dX12_countAll_77 : decode cX12_countAll 77 = .ok (.getfield 55, 3) := by decide +kernel
theorem dX12_countAll_80 : decode cX12_countAll 80 = .ok (.bipush 6, 2) := by decide +kernel
theorem dX12_countAll_82 : decode cX12_countAll 82 = .ok (.dup2, 1) := by decide +kernel
theorem dX12_countAll_83 : decode cX12_countAll 83 = .ok (.iaload, 1) := by decide +kernel
theorem dX12_countAll_84 : decode cX12_countAll 84 = .ok (.iload 6, 2) := by decide +kernel
theorem dX12_countAll_86 : decode cX12_countAll 86 = .ok (.iconst 4, 1) := by decide +kernel
theorem dX12_countAll_95 : decode cX12_countAll 95 = .ok (.iadd, 1) := by decide +kernel
theorem dX12_countAll_96 : decode cX12_countAll 96 = .ok (.iastore, 1) := by decide +kernel
theorem dX12_countAll_97 : decode cX12_countAll 97 = .ok (.aload_n 0, 1) := by decide +kernel
theorem dX12_countAll_98 : decode cX12_countAll 98 = .ok (.iload 5, 2) := by decide +kernel
theorem dX12_countAll_100 : decode cX12_countAll 100 = .ok (.invokevirtual 206, 3) := by decide +kernel
theorem dX12_countAll_103 : decode cX12_countAll 103 = .ok (.ifCond .ne 6, 3) := by decide +kernel
theorem dX12_countAll_109 : decode cX12_countAll 109 = .ok (.aload_n 0, 1) := by decide +kernel
theorem dX12_countAll_110 : decode cX12_countAll 110 = .ok (.getfield 55, 3) := by decide +kernel
theorem dX12_countAll_113 : decode cX12_countAll 113 = .ok (.bipush 7, 2) := by decide +kernel
theorem dX12_countAll_115 : decode cX12_countAll 115 = .ok (.dup2, 1) := by decide +kernel
theorem dX12_countAll_116 : decode cX12_countAll 116 = .ok (.iaload, 1) := by decide +kernel
theorem dX12_countAll_117 : decode cX12_countAll 117 = .ok (.iconst 1, 1) := by decide +kernel
theorem dX12_countAll_118 : decode cX12_countAll 118 = .ok (.iadd, 1) := by decide +kernel
theorem dX12_countAll_119 : decode cX12_countAll 119 = .ok (.iastore, 1) := by decide +kernel
theorem dX12_countAll_120 : decode cX12_countAll 120 = .ok (.iload_n 3, 1) := by decide +kernel
theorem dX12_countAll_121 : decode cX12_countAll 121 = .ok (.iload 6, 2) := by decide +kernel
theorem dX12_countAll_137 : decode cX12_countAll 137 = .ok (.iadd, 1) := by decide +kernel
theorem dX12_countAll_138 : decode cX12_countAll 138 = .ok (.istore_n 3, 1) := by decide +kernel
theorem dX12_countAll_139 : decode cX12_countAll 139 = .ok (.iload 6, 2) := by decide +kernel
theorem dX12_countAll_141 : decode cX12_countAll 141 = .ok (.i2l, 1) := by decide +kernel
theorem dX12_countAll_142 : decode cX12_countAll 142 = .ok (.lconst 1, 1) := by decide +kernel
theorem dX12_countAll_143 : decode cX12_countAll 143 = .ok (.ldc2_w 90, 3) := by decide +kernel
theorem dX12_countAll_146 : decode cX12_countAll 146 = .ok (.invokestatic 79, 3) := by decide +kernel
theorem dX12_countAll_165 : decode cX12_countAll 165 = .ok (.aload_n 0, 1) := by decide +kernel
theorem dX12_countAll_166 : decode cX12_countAll 166 = .ok (.iload 5, 2) := by decide +kernel
theorem dX12_countAll_168 : decode cX12_countAll 168 = .ok (.invokevirtual 98, 3) := by decide +kernel
theorem dX12_countAll_171 : decode cX12_countAll 171 = .ok (.iconst 2, 1) := by decide +kernel
theorem dX12_countAll_172 : decode cX12_countAll 172 = .ok (.if_icmp .eq 6, 3) := by decide +kernel
theorem dX12_countAll_178 : decode cX12_countAll 178 = .ok (.aload_n 0, 1) := by decide +kernel
theorem dX12_countAll_179 : decode cX12_countAll 179 = .ok (.getfield 55, 3) := by decide +kernel
theorem dX12_countAll_182 : decode cX12_countAll 182 = .ok (.iconst 3, 1) := by decide +kernel
theorem dX12_countAll_183 : decode cX12_countAll 183 = .ok (.dup2, 1) := by decide +kernel
theorem dX12_countAll_184 : decode cX12_countAll 184 = .ok (.iaload, 1) := by decide +kernel
theorem dX12_countAll_185 : decode cX12_countAll 185 = .ok (.iload 6, 2) := by decide +kernel
theorem dX12_countAll_187 : decode cX12_countAll 187 = .ok (.iconst 4, 1) := by decide +kernel
theorem dX12_countAll_188 : decode cX12_countAll 188 = .ok (.if_icmp .eq 18, 3) := by decide +kernel
theorem dX12_countAll_206 : decode cX12_countAll 206 = .ok (.iconst 0, 1) := by decide +kernel
theorem dX12_countAll_207 : decode cX12_countAll 207 = .ok (.iadd, 1) := by decide +kernel
theorem dX12_countAll_208 : decode cX12_countAll 208 = .ok (.iastore, 1) := by decide +kernel
theorem dX12_countAll_209 : decode cX12_countAll 209 = .ok (.iload 6, 2) := by decide +kernel
theorem dX12_countAll_211 : decode cX12_countAll 211 = .ok (.istore_n 1, 1) := by decide +kernel
theorem dX12_countAll_212 : decode cX12_countAll 212 = .ok (.iinc 4 1, 3) := by decide +kernel
theorem dX12_countAll_215 : decode cX12_countAll 215 = .ok (.goto (-168), 3) := by decide +kernel
theorem dX12_countAll_191 : decode cX12_countAll 191 = .ok (.iload_n 1, 1) := by decide +kernel
