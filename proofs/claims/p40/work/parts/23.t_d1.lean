theorem dX9_tellLine_7 : decode cX9_tellLine 7 = .ok (.ldc 60, 2) := by decide +kernel
theorem dX9_tellLine_9 : decode cX9_tellLine 9 = .ok (.invokevirtual 56, 3) := by decide +kernel
theorem dX9_tellLine_12 : decode cX9_tellLine 12 = .ok (.iconst 0, 1) := by decide +kernel
theorem dX9_tellLine_13 : decode cX9_tellLine 13 = .ok (.istore_n 2, 1) := by decide +kernel
theorem dX9_tellLine_14 : decode cX9_tellLine 14 = .ok (.iconst 0, 1) := by decide +kernel
theorem dX9_tellLine_15 : decode cX9_tellLine 15 = .ok (.istore_n 3, 1) := by decide +kernel
theorem dX9_tellLine_16 : decode cX9_tellLine 16 = .ok (.iload_n 3, 1) := by decide +kernel
theorem dX9_tellLine_17 : decode cX9_tellLine 17 = .ok (.sipush 300, 3) := by decide +kernel
theorem dX9_tellLine_20 : decode cX9_tellLine 20 = .ok (.if_icmp .ge 84, 3) := by decide +kernel
theorem dX9_tellLine_104 : decode cX9_tellLine 104 = .ok (.return_, 1) := by decide +kernel
theorem dX9_tellLine_23 : decode cX9_tellLine 23 = .ok (.aload_n 1, 1) := by decide +kernel
theorem dX9_tellLine_24 : decode cX9_tellLine 24 = .ok (.invokevirtual 53, 3) := by decide +kernel
theorem dX9_tellLine_27 : decode cX9_tellLine 27 = .ok (.ifCond .eq 77, 3) := by decide +kernel
theorem dX9_tellLine_30 : decode cX9_tellLine 30 = .ok (.aload_n 0, 1) := by decide +kernel
theorem dX9_tellLine_31 : decode cX9_tellLine 31 = .ok (.aload_n 1, 1) := by decide +kernel
theorem dX9_tellLine_32 : decode cX9_tellLine 32 = .ok (.invokevirtual 62, 3) := by decide +kernel
theorem dX9_tellLine_35 : decode cX9_tellLine 35 = .ok (.aload_n 1, 1) := by decide +kernel
theorem dX9_tellLine_36 : decode cX9_tellLine 36 = .ok (.iload_n 2, 1) := by decide +kernel
theorem dX9_tellLine_37 : decode cX9_tellLine 37 = .ok (.invokestatic 65, 3) := by decide +kernel
theorem dX9_tellLine_40 : decode cX9_tellLine 40 = .ok (.istore 4, 2) := by decide +kernel
theorem dX9_tellLine_42 : decode cX9_tellLine 42 = .ok (.iload 4, 2) := by decide +kernel
theorem dX9_tellLine_44 : decode cX9_tellLine 44 = .ok (.iconst (-1), 1) := by decide +kernel
theorem dX9_tellLine_53 : decode cX9_tellLine 53 = .ok (.aload_n 1, 1) := by decide +kernel
theorem dX9_tellLine_54 : decode cX9_tellLine 54 = .ok (.invokevirtual 69, 3) := by decide +kernel
theorem dX9_tellLine_57 : decode cX9_tellLine 57 = .ok (.aload_n 0, 1) := by decide +kernel
theorem dX9_tellLine_58 : decode cX9_tellLine 58 = .ok (.iload 4, 2) := by decide +kernel
theorem dX9_tellLine_60 : decode cX9_tellLine 60 = .ok (.invokevirtual 72, 3) := by decide +kernel
theorem dX9_tellLine_63 : decode cX9_tellLine 63 = .ok (.iload 4, 2) := by decide +kernel
theorem dX9_tellLine_65 : decode cX9_tellLine 65 = .ok (.sipush 2007, 3) := by decide +kernel
theorem dX9_tellLine_68 : decode cX9_tellLine 68 = .ok (.if_icmp .ne 4, 3) := by decide +kernel
theorem dX9_tellLine_72 : decode cX9_tellLine 72 = .ok (.iload 4, 2) := by decide +kernel
theorem dX9_tellLine_74 : decode cX9_tellLine 74 = .ok (.sipush 2006, 3) := by decide +kernel
theorem dX9_tellLine_77 : decode cX9_tellLine 77 = .ok (.if_icmp .eq 19, 3) := by decide +kernel
theorem dX9_tellLine_96 : decode cX9_tellLine 96 = .ok (.iconst 0, 1) := by decide +kernel
theorem dX9_tellLine_97 : decode cX9_tellLine 97 = .ok (.istore_n 2, 1) := by decide +kernel
theorem dX9_tellLine_98 : decode cX9_tellLine 98 = .ok (.iinc 3 1, 3) := by decide +kernel
theorem dX9_tellLine_101 : decode cX9_tellLine 101 = .ok (.goto (-85), 3) := by decide +kernel
theorem dX9_tellLine_80 : decode cX9_tellLine 80 = .ok (.iload_n 2, 1) := by decide +kernel
theorem dX9_tellLine_81 : decode cX9_tellLine 81 = .ok (.ifCond .ne 11, 3) := by decide +kernel
theorem dX9_tellLine_92 : decode cX9_tellLine 92 = .ok (.iconst 1, 1) := by decide +kernel
theorem dX9_tellLine_93 : decode cX9_tellLine 93 = .ok (.goto 4, 3) := by decide +kernel
theorem dX9_tellLine_84 : decode cX9_tellLine 84 = .ok (.iload 4, 2) := by decide +kernel
theorem dX9_tellLine_86 : decode cX9_tellLine 86 = .ok (.sipush 2003, 3) := by decide +kernel
theorem dX9_tellLine_89 : decode cX9_tellLine 89 = .ok (.if_icmp .lt 7, 3) := by decide +kernel
theorem dX9_tellLine_71 : decode cX9_tellLine 71 = .ok (.return_, 1) := by decide +kernel
theorem dX9_tellLine_45 : decode cX9_tellLine 45 = .ok (.if_icmp .ne 8, 3) := by decide +kernel
theorem dX9_tellLine_48 : decode cX9_tellLine 48 = .ok (.aload_n 1, 1) := by decide +kernel
theorem dX9_tellLine_49 : decode cX9_tellLine 49 = .ok (.iconst 1, 1) := by decide +kernel
theorem dX9_tellLine_50 : decode cX9_tellLine 50 = .ok (.invokevirtual 45, 3) := by decide +kernel
theorem dX9_tell_0 : decode cX9_tell 0 = .ok (.aload_n 1, 1) := by decide +kernel
theorem dX9_tell_1 : decode cX9_tell 1 = .ok (.invokevirtual 30, 3) := by decide +kernel
theorem dX9_tell_4 : decode cX9_tell 4 = .ok (.aload_n 0, 1) := by decide +kernel
theorem dX9_tell_5 : decode cX9_tell 5 = .ok (.iconst 0, 1) := by decide +kernel
theorem dX9_tell_6 : decode cX9_tell 6 = .ok (.putfield 23, 3) := by decide +kernel
theorem dX9_tell_9 : decode cX9_tell 9 = .ok (.aload_n 0, 1) := by decide +kernel
theorem dX9_tell_10 : decode cX9_tell 10 = .ok (.iconst 0, 1) := by decide +kernel
theorem dX9_tell_11 : decode cX9_tell 11 = .ok (.putfield 27, 3) := by decide +kernel
theorem dX9_tell_14 : decode cX9_tell 14 = .ok (.iconst 0, 1) := by decide +kernel
theorem dX9_tell_15 : decode cX9_tell 15 = .ok (.istore_n 2, 1) := by decide +kernel
theorem dX9_tell_16 : decode cX9_tell 16 = .ok (.iload_n 2, 1) := by decide +kernel
theorem dX9_tell_17 : decode cX9_tell 17 = .ok (.bipush 12, 2) := by decide +kernel
theorem dX9_tell_19 : decode cX9_tell 19 = .ok (.if_icmp .gt 51, 3) := by decide +kernel
theorem dX9_tell_70 : decode cX9_tell 70 = .ok (.aload_n 1, 1) := by decide +kernel
theorem dX9_tell_71 : decode cX9_tell 71 = .ok (.invokevirtual 53, 3) := by decide +kernel
theorem dX9_tell_74 : decode cX9_tell 74 = .ok (.ireturn, 1) := by decide +kernel
theorem dX9_tell_22 : decode cX9_tell 22 = .ok (.aload_n 1, 1) := by decide +kernel
theorem dX9_tell_23 : decode cX9_tell 23 = .ok (.invokevirtual 35, 3) := by decide +kernel
theorem dX9_tell_26 : decode cX9_tell 26 = .ok (.ifCond .eq 44, 3) := by decide +kernel
theorem dX9_tell_29 : decode cX9_tell 29 = .ok (.iload_n 2, 1) := by decide +kernel
theorem dX9_tell_30 : decode cX9_tell 30 = .ok (.bipush 12, 2) := by decide +kernel
theorem dX9_tell_49 : decode cX9_tell 49 = .ok (.aload_n 0, 1) := by decide +kernel
theorem dX9_tell_50 : decode cX9_tell 50 = .ok (.aload_n 1, 1) := by decide +kernel
theorem dX9_tell_51 : decode cX9_tell 51 = .ok (.invokevirtual 49, 3) := by decide +kernel
theorem dX9_tell_54 : decode cX9_tell 54 = .ok (.aload_n 0, 1) := by decide +kernel
theorem dX9_tell_55 : decode cX9_tell 55 = .ok (.dup, 1) := by decide +kernel
theorem dX9_tell_56 : decode cX9_tell 56 = .ok (.getfield 27, 3) := by decide +kernel
theorem dX9_tell_59 : decode cX9_tell 59 = .ok (.iconst 1, 1) := by decide +kernel
theorem dX9_tell_60 : decode cX9_tell 60 = .ok (.iadd, 1) := by decide +kernel
theorem dX9_tell_61 : decode cX9_tell 61 = .ok (.putfield 27, 3) := by decide +kernel
theorem dX9_tell_64 : decode cX9_tell 64 = .ok (.iinc 2 1, 3) := by decide +kernel
theorem dX9_tell_67 : decode cX9_tell 67 = .ok (.goto (-51), 3) := by decide +kernel
theorem dX9_tell_32 : decode cX9_tell 32 = .ok (.if_icmp .ne 17, 3) := by decide +kernel
theorem dX9_tell_35 : decode cX9_tell 35 = .ok (.aload_n 1, 1) := by decide +kernel
theorem dX9_tell_36 : decode cX9_tell 36 = .ok (.ldc 39, 2) := by decide +kernel
theorem dX9_tell_38 : decode cX9_tell 38 = .ok (.invokevirtual 41, 3) := by decide +kernel
theorem dX9_tell_41 : decode cX9_tell 41 = .ok (.ifCond .eq 8, 3) := by decide +kernel
theorem dX9_tell_44 : decode cX9_tell 44 = .ok (.aload_n 1, 1) := by decide +kernel
theorem dX9_tell_45 : decode cX9_tell 45 = .ok (.iconst 3, 1) := by decide +kernel
theorem dX9_tell_46 : decode cX9_tell 46 = .ok (.invokevirtual 45, 3) := by decide +kernel
theorem dX9_codeAt_0 : decode cX9_codeAt 0 = .ok (.iload_n 1, 1) := by decide +kernel
theorem dX9_codeAt_1 : decode cX9_codeAt 1 = .ok (.ifCond .lt 27, 3) := by decide +kernel
theorem dX9_codeAt_28 : decode cX9_codeAt 28 = .ok (.sipush 2007, 3) := by decide +kernel
theorem dX9_codeAt_31 : decode cX9_codeAt 31 = .ok (.ireturn, 1) := by decide +kernel
theorem dX9_codeAt_4 : decode cX9_codeAt 4 = .ok (.iload_n 1, 1) := by decide +kernel
theorem dX9_codeAt_5 : decode cX9_codeAt 5 = .ok (.aload_n 0, 1) := by decide +kernel
theorem dX9_codeAt_6 : decode cX9_codeAt 6 = .ok (.getfield 23, 3) := by decide +kernel
theorem dX9_codeAt_9 : decode cX9_codeAt 9 = .ok (.if_icmp .ge 19, 3) := by decide +kernel
theorem dX9_codeAt_12 : decode cX9_codeAt 12 = .ok (.iload_n 1, 1) := by decide +kernel
theorem dX9_codeAt_13 : decode cX9_codeAt 13 = .ok (.sipush 300, 3) := by decide +kernel
theorem dX9_codeAt_16 : decode cX9_codeAt 16 = .ok (.if_icmp .ge 12, 3) := by decide +kernel
theorem dX9_codeAt_19 : decode cX9_codeAt 19 = .ok (.aload_n 0, 1) := by decide +kernel
theorem dX9_codeAt_20 : decode cX9_codeAt 20 = .ok (.getfield 13, 3) := by decide +kernel
theorem dX9_codeAt_23 : decode cX9_codeAt 23 = .ok (.iload_n 1, 1) := by decide +kernel
theorem dX9_codeAt_24 : decode cX9_codeAt 24 = .ok (.iaload, 1) := by decide +kernel
theorem dX9_codeAt_25 : decode cX9_codeAt 25 = .ok (.goto 6, 3) := by decide +kernel
theorem dX9_isBeyond_0 : decode cX9_isBeyond 0 = .ok (.lload_n 0, 1) := by decide +kernel
theorem dX9_isBeyond_1 : decode cX9_isBeyond 1 = .ok (.ldc2_w 148, 3) := by decide +kernel
theorem dX9_isBeyond_4 : decode cX9_isBeyond 4 = .ok (.lcmp, 1) := by decide +kernel
theorem dX9_isBeyond_5 : decode cX9_isBeyond 5 = .ok (.ifCond .gt 11, 3) := by decide +kernel
theorem dX9_isBeyond_16 : decode cX9_isBeyond 16 = .ok (.iconst 1, 1) := by decide +kernel
theorem dX9_isBeyond_17 : decode cX9_isBeyond 17 = .ok (.goto 4, 3) := by decide +kernel
theorem dX9_isBeyond_21 : decode cX9_isBeyond 21 = .ok (.ireturn, 1) := by decide +kernel
theorem dX9_isBeyond_8 : decode cX9_isBeyond 8 = .ok (.lload_n 0, 1) := by decide +kernel
theorem dX9_isBeyond_9 : decode cX9_isBeyond 9 = .ok (.ldc2_w 150, 3) := by decide +kernel
theorem dX9_isBeyond_12 : decode cX9_isBeyond 12 = .ok (.lcmp, 1) := by decide +kernel
theorem dX9_isBeyond_13 : decode cX9_isBeyond 13 = .ok (.ifCond .ge 7, 3) := by decide +kernel
theorem dX9_isBeyond_20 : decode cX9_isBeyond 20 = .ok (.iconst 0, 1) := by decide +kernel
theorem dX6_mostInRow_0 : decode cX6_mostInRow 0 = .ok (.iconst 0, 1) := by decide +kernel
theorem dX6_mostInRow_1 : decode cX6_mostInRow 1 = .ok (.istore_n 1, 1) := by decide +kernel
theorem dX6_mostInRow_2 : decode cX6_mostInRow 2 = .ok (.iconst 0, 1) := by decide +kernel
theorem dX6_mostInRow_3 : decode cX6_mostInRow 3 = .ok (.istore_n 2, 1) := by decide +kernel
theorem dX6_mostInRow_4 : decode cX6_mostInRow 4 = .ok (.iload_n 2, 1) := by decide +kernel
theorem dX6_mostInRow_5 : decode cX6_mostInRow 5 = .ok (.aload_n 0, 1) := by decide +kernel
theorem dX6_mostInRow_6 : decode cX6_mostInRow 6 = .ok (.getfield 57, 3) := by decide +kernel
theorem dX6_mostInRow_9 : decode cX6_mostInRow 9 = .ok (.if_icmp .ge 26, 3) := by decide +kernel
theorem dX6_mostInRow_35 : decode cX6_mostInRow 35 = .ok (.iload_n 1, 1) := by decide +kernel
theorem dX6_mostInRow_36 : decode cX6_mostInRow 36 = .ok (.ireturn, 1) := by decide +kernel
theorem dX6_mostInRow_12 : decode cX6_mostInRow 12 = .ok (.aload_n 0, 1) := by decide +kernel
theorem dX6_mostInRow_13 : decode cX6_mostInRow 13 = .ok (.getfield 22, 3) := by decide +kernel
theorem dX6_mostInRow_16 : decode cX6_mostInRow 16 = .ok (.iload_n 2, 1) := by decide +kernel
theorem dX6_mostInRow_17 : decode cX6_mostInRow 17 = .ok (.iaload, 1) := by decide +kernel
theorem dX6_mostInRow_18 : decode cX6_mostInRow 18 = .ok (.iload_n 1, 1) := by decide +kernel
theorem dX6_mostInRow_19 : decode cX6_mostInRow 19 = .ok (.if_icmp .le 10, 3) := by decide +kernel
theorem dX6_mostInRow_29 : decode cX6_mostInRow 29 = .ok (.iinc 2 1, 3) := by decide +kernel
theorem dX6_mostInRow_32 : decode cX6_mostInRow 32 = .ok (.goto (-28), 3) := by decide +kernel
theorem dX6_mostInRow_22 : decode cX6_mostInRow 22 = .ok (.aload_n 0, 1) := by decide +kernel
theorem dX6_mostInRow_23 : decode cX6_mostInRow 23 = .ok (.getfield 22, 3) := by decide +kernel
theorem dX6_mostInRow_26 : decode cX6_mostInRow 26 = .ok (.iload_n 2, 1) := by decide +kernel
theorem dX6_mostInRow_27 : decode cX6_mostInRow 27 = .ok (.iaload, 1) := by decide +kernel
theorem dX6_mostInRow_28 : decode cX6_mostInRow 28 = .ok (.istore_n 1, 1) := by decide +kernel
theorem dX6_leastInRow_0 : decode cX6_leastInRow 0 = .ok (.bipush 16, 2) := by decide +kernel
theorem dX6_leastInRow_2 : decode cX6_leastInRow 2 = .ok (.istore_n 1, 1) := by decide +kernel
theorem dX6_leastInRow_3 : decode cX6_leastInRow 3 = .ok (.iconst 0, 1) := by decide +kernel
theorem dX6_leastInRow_4 : decode cX6_leastInRow 4 = .ok (.istore_n 2, 1) := by decide +kernel
theorem dX6_leastInRow_5 : decode cX6_leastInRow 5 = .ok (.iload_n 2, 1) := by decide +kernel
theorem dX6_leastInRow_6 : decode cX6_leastInRow 6 = .ok (.aload_n 0, 1) := by decide +kernel
theorem dX6_leastInRow_7 : decode cX6_leastInRow 7 = .ok (.getfield 57, 3) := by decide +kernel
theorem dX6_leastInRow_10 : decode cX6_leastInRow 10 = .ok (.if_icmp .ge 26, 3) := by decide +kernel
theorem dX6_leastInRow_36 : decode cX6_leastInRow 36 = .ok (.iload_n 1, 1) := by decide +kernel
theorem dX6_leastInRow_37 : decode cX6_leastInRow 37 = .ok (.ireturn, 1) := by decide +kernel
theorem dX6_leastInRow_13 : decode cX6_leastInRow 13 = .ok (.aload_n 0, 1) := by decide +kernel
theorem dX6_leastInRow_14 : decode cX6_leastInRow 14 = .ok (.getfield 22, 3) := by decide +kernel
theorem dX6_leastInRow_17 : decode cX6_leastInRow 17 = .ok (.iload_n 2, 1) := by decide +kernel
theorem dX6_leastInRow_18 : decode cX6_leastInRow 18 = .ok (.iaload, 1) := by decide +kernel
theorem dX6_leastInRow_19 : decode cX6_leastInRow 19 = .ok (.iload_n 1, 1) := by decide +kernel
theorem dX6_leastInRow_20 : decode cX6_leastInRow 20 = .ok (.if_icmp .ge 10, 3) := by decide +kernel
theorem dX6_leastInRow_30 : decode cX6_leastInRow 30 = .ok (.iinc 2 1, 3) := by decide +kernel
theorem dX6_leastInRow_33 : decode cX6_leastInRow 33 = .ok (.goto (-28), 3) := by decide +kernel
theorem dX6_leastInRow_23 : decode cX6_leastInRow 23 = .ok (.aload_n 0, 1) := by decide +kernel
theorem dX6_leastInRow_24 : decode cX6_leastInRow 24 = .ok (.getfield 22, 3) := by decide +kernel
theorem dX6_leastInRow_27 : decode cX6_leastInRow 27 = .ok (.iload_n 2, 1) := by decide +kernel
theorem dX6_leastInRow_28 : decode cX6_leastInRow 28 = .ok (.iaload, 1) := by decide +kernel
theorem dX6_leastInRow_29 : decode cX6_leastInRow 29 = .ok (.istore_n 1, 1) := by decide +kernel
theorem dX6_valueOf_0 : decode cX6_valueOf 0 = .ok (.iload_n 1, 1) := by decide +kernel
theorem dX6_valueOf_1 : decode cX6_valueOf 1 = .ok (.tableswitch 60 3 7 #[35, 40, 45, 50, 55], 35) := by decide +kernel
theorem dX6_valueOf_36 : decode cX6_valueOf 36 = .ok (.aload_n 0, 1) := by decide +kernel
theorem dX6_valueOf_37 : decode cX6_valueOf 37 = .ok (.getfield 69, 3) := by decide +kernel
theorem dX6_valueOf_40 : decode cX6_valueOf 40 = .ok (.ireturn, 1) := by decide +kernel
theorem dX6_valueOf_41 : decode cX6_valueOf 41 = .ok (.aload_n 0, 1) := by decide +kernel
theorem dX6_valueOf_42 : decode cX6_valueOf 42 = .ok (.invokevirtual 99, 3) := by decide +kernel
theorem dX6_valueOf_45 : decode cX6_valueOf 45 = .ok (.ireturn, 1) := by decide +kernel
theorem dX6_valueOf_46 : decode cX6_valueOf 46 = .ok (.aload_n 0, 1) := by decide +kernel
theorem dX6_valueOf_47 : decode cX6_valueOf 47 = .ok (.invokevirtual 103, 3) := by decide +kernel
theorem dX6_valueOf_50 : decode cX6_valueOf 50 = .ok (.ireturn, 1) := by decide +kernel
theorem dX6_valueOf_51 : decode cX6_valueOf 51 = .ok (.aload_n 0, 1) := by decide +kernel
theorem dX6_valueOf_52 : decode cX6_valueOf 52 = .ok (.getfield 66, 3) := by decide +kernel
theorem dX6_valueOf_55 : decode cX6_valueOf 55 = .ok (.ireturn, 1) := by decide +kernel
theorem dX6_valueOf_56 : decode cX6_valueOf 56 = .ok (.aload_n 0, 1) := by decide +kernel
theorem dX6_valueOf_57 : decode cX6_valueOf 57 = .ok (.getfield 61, 3) := by decide +kernel
theorem dX6_valueOf_60 : decode cX6_valueOf 60 = .ok (.ireturn, 1) := by decide +kernel
theorem dX6_valueOf_61 : decode cX6_valueOf 61 = .ok (.iload_n 1, 1) := by decide +kernel
theorem dX6_valueOf_62 : decode cX6_valueOf 62 = .ok (.ifCond .lt 19, 3) := by decide +kernel
theorem dX6_valueOf_81 : decode cX6_valueOf 81 = .ok (.iconst 0, 1) := by decide +kernel
theorem dX6_valueOf_82 : decode cX6_valueOf 82 = .ok (.ireturn, 1) := by decide +kernel
theorem dX6_valueOf_65 : decode cX6_valueOf 65 = .ok (.iload_n 1, 1) := by decide +kernel
theorem dX6_valueOf_66 : decode cX6_valueOf 66 = .ok (.iconst 3, 1) := by decide +kernel
theorem dX6_valueOf_67 : decode cX6_valueOf 67 = .ok (.if_icmp .ge 14, 3) := by decide +kernel
theorem dX6_valueOf_70 : decode cX6_valueOf 70 = .ok (.aload_n 0, 1) := by decide +kernel
theorem dX6_valueOf_71 : decode cX6_valueOf 71 = .ok (.getfield 18, 3) := by decide +kernel
theorem dX6_valueOf_74 : decode cX6_valueOf 74 = .ok (.iconst 1, 1) := by decide +kernel
theorem dX6_valueOf_75 : decode cX6_valueOf 75 = .ok (.iload_n 1, 1) := by decide +kernel
theorem dX6_valueOf_76 : decode cX6_valueOf 76 = .ok (.iadd, 1) := by decide +kernel
theorem dX6_valueOf_77 : decode cX6_valueOf 77 = .ok (.iaload, 1) := by decide +kernel
theorem dX6_valueOf_78 : decode cX6_valueOf 78 = .ok (.goto 4, 3) := by decide +kernel
theorem dX9_sumOf_0 : decode cX9_sumOf 0 = .ok (.lconst 0, 1) := by decide +kernel
theorem dX9_sumOf_1 : decode cX9_sumOf 1 = .ok (.lstore 4, 2) := by decide +kernel
theorem dX9_sumOf_3 : decode cX9_sumOf 3 = .ok (.lconst 1, 1) := by decide +kernel
theorem dX9_sumOf_4 : decode cX9_sumOf 4 = .ok (.lstore 6, 2) := by decide +kernel
theorem dX9_sumOf_6 : decode cX9_sumOf 6 = .ok (.iconst 1, 1) := by decide +kernel
theorem dX9_sumOf_7 : decode cX9_sumOf 7 = .ok (.istore 8, 2) := by decide +kernel
theorem dX9_sumOf_9 : decode cX9_sumOf 9 = .ok (.iload_n 1, 1) := by decide +kernel
theorem dX9_sumOf_10 : decode cX9_sumOf 10 = .ok (.istore 9, 2) := by decide +kernel
theorem dX9_sumOf_12 : decode cX9_sumOf 12 = .ok (.iload 9, 2) := by decide +kernel
theorem dX9_sumOf_14 : decode cX9_sumOf 14 = .ok (.iload_n 2, 1) := by decide +kernel
theorem dX9_sumOf_15 : decode cX9_sumOf 15 = .ok (.if_icmp .ge 123, 3) := by decide +kernel
theorem dX9_sumOf_138 : decode cX9_sumOf 138 = .ok (.lload 4, 2) := by decide +kernel
theorem dX9_sumOf_140 : decode cX9_sumOf 140 = .ok (.iload 8, 2) := by decide +kernel
theorem dX9_sumOf_142 : decode cX9_sumOf 142 = .ok (.i2l, 1) := by decide +kernel
theorem dX9_sumOf_143 : decode cX9_sumOf 143 = .ok (.lload 6, 2) := by decide +kernel
theorem dX9_sumOf_145 : decode cX9_sumOf 145 = .ok (.lmul, 1) := by decide +kernel
theorem dX9_sumOf_146 : decode cX9_sumOf 146 = .ok (.ladd, 1) := by decide +kernel
theorem dX9_sumOf_147 : decode cX9_sumOf 147 = .ok (.lstore 4, 2) := by decide +kernel
theorem dX9_sumOf_149 : decode cX9_sumOf 149 = .ok (.lload 4, 2) := by decide +kernel
theorem dX9_sumOf_151 : decode cX9_sumOf 151 = .ok (.invokestatic 144, 3) := by decide +kernel
theorem dX9_sumOf_154 : decode cX9_sumOf 154 = .ok (.ifCond .eq 9, 3) := by decide +kernel
theorem dX9_sumOf_163 : decode cX9_sumOf 163 = .ok (.lload 4, 2) := by decide +kernel
theorem dX9_sumOf_165 : decode cX9_sumOf 165 = .ok (.lreturn, 1) := by decide +kernel
theorem dX9_sumOf_157 : decode cX9_sumOf 157 = .ok (.ldc2_w 137, 3) := by decide +kernel
theorem dX9_sumOf_160 : decode cX9_sumOf 160 = .ok (.goto 5, 3) := by decide +kernel
theorem dX9_sumOf_18 : decode cX9_sumOf 18 = .ok (.aload_n 0, 1) := by decide +kernel
theorem dX9_sumOf_19 : decode cX9_sumOf 19 = .ok (.iload 9, 2) := by decide +kernel
theorem dX9_sumOf_21 : decode cX9_sumOf 21 = .ok (.invokevirtual 125, 3) := by decide +kernel
theorem dX9_sumOf_24 : decode cX9_sumOf 24 = .ok (.istore 10, 2) := by decide +kernel
theorem dX9_sumOf_26 : decode cX9_sumOf 26 = .ok (.iload 10, 2) := by decide +kernel
theorem dX9_sumOf_28 : decode cX9_sumOf 28 = .ok (.sipush 2000, 3) := by decide +kernel
theorem dX9_sumOf_31 : decode cX9_sumOf 31 = .ok (.if_icmp .eq 11, 3) := by decide +kernel
theorem dX9_sumOf_42 : decode cX9_sumOf 42 = .ok (.lload 4, 2) := by decide +kernel
theorem dX9_sumOf_44 : decode cX9_sumOf 44 = .ok (.iload 8, 2) := by decide +kernel
theorem dX9_sumOf_46 : decode cX9_sumOf 46 = .ok (.i2l, 1) := by decide +kernel
theorem dX9_sumOf_47 : decode cX9_sumOf 47 = .ok (.lload 6, 2) := by decide +kernel
theorem dX9_sumOf_49 : decode cX9_sumOf 49 = .ok (.lmul, 1) := by decide +kernel
theorem dX9_sumOf_50 : decode cX9_sumOf 50 = .ok (.ladd, 1) := by decide +kernel
theorem dX9_sumOf_51 : decode cX9_sumOf 51 = .ok (.lstore 4, 2) := by decide +kernel
theorem dX9_sumOf_53 : decode cX9_sumOf 53 = .ok (.iload 10, 2) := by decide +kernel
theorem dX9_sumOf_55 : decode cX9_sumOf 55 = .ok (.sipush 2000, 3) := by decide +kernel
theorem dX9_sumOf_58 : decode cX9_sumOf 58 = .ok (.if_icmp .ne 7, 3) := by decide +kernel
theorem dX9_sumOf_61 : decode cX9_sumOf 61 = .ok (.iconst 1, 1) := by decide +kernel
theorem dX9_sumOf_62 : decode cX9_sumOf 62 = .ok (.goto 4, 3) := by decide +kernel
theorem dX9_sumOf_66 : decode cX9_sumOf 66 = .ok (.istore 8, 2) := by decide +kernel
theorem dX9_sumOf_68 : decode cX9_sumOf 68 = .ok (.lconst 1, 1) := by decide +kernel
theorem dX9_sumOf_69 : decode cX9_sumOf 69 = .ok (.lstore 6, 2) := by decide +kernel
theorem dX9_sumOf_71 : decode cX9_sumOf 71 = .ok (.goto 41, 3) := by decide +kernel
theorem dX9_sumOf_112 : decode cX9_sumOf 112 = .ok (.lload 4, 2) := by decide +kernel
theorem dX9_sumOf_114 : decode cX9_sumOf 114 = .ok (.invokestatic 144, 3) := by decide +kernel
theorem dX9_sumOf_117 : decode cX9_sumOf 117 = .ok (.ifCond .ne 11, 3) := by decide +kernel
theorem dX9_sumOf_128 : decode cX9_sumOf 128 = .ok (.ldc2_w 137, 3) := by decide +kernel
theorem dX9_sumOf_131 : decode cX9_sumOf 131 = .ok (.lreturn, 1) := by decide +kernel
theorem dX9_sumOf_120 : decode cX9_sumOf 120 = .ok (.lload 6, 2) := by decide +kernel
theorem dX9_sumOf_122 : decode cX9_sumOf 122 = .ok (.invokestatic 144, 3) := by decide +kernel
theorem dX9_sumOf_125 : decode cX9_sumOf 125 = .ok (.ifCond .eq 7, 3) := by decide +kernel
theorem dX9_sumOf_132 : decode cX9_sumOf 132 = .ok (.iinc 9 1, 3) := by decide +kernel
theorem dX9_sumOf_135 : decode cX9_sumOf 135 = .ok (.goto (-123), 3) := by decide +kernel
theorem dX9_sumOf_34 : decode cX9_sumOf 34 = .ok (.iload 10, 2) := by decide +kernel
theorem dX9_sumOf_36 : decode cX9_sumOf 36 = .ok (.sipush 2001, 3) := by decide +kernel
theorem dX9_sumOf_39 : decode cX9_sumOf 39 = .ok (.if_icmp .ne 35, 3) := by decide +kernel
theorem dX9_sumOf_74 : decode cX9_sumOf 74 = .ok (.iload 10, 2) := by decide +kernel
theorem dX9_sumOf_76 : decode cX9_sumOf 76 = .ok (.sipush 2002, 3) := by decide +kernel
theorem dX9_sumOf_79 : decode cX9_sumOf 79 = .ok (.if_icmp .eq 33, 3) := by decide +kernel
theorem dX9_sumOf_82 : decode cX9_sumOf 82 = .ok (.lload 6, 2) := by decide +kernel
theorem dX9_sumOf_84 : decode cX9_sumOf 84 = .ok (.iload 10, 2) := by decide +kernel
theorem dX9_sumOf_86 : decode cX9_sumOf 86 = .ok (.sipush 1000, 3) := by decide +kernel
theorem dX9_sumOf_109 : decode cX9_sumOf 109 = .ok (.lmul, 1) := by decide +kernel
theorem dX9_sumOf_110 : decode cX9_sumOf 110 = .ok (.lstore 6, 2) := by decide +kernel
theorem dX9_sumOf_89 : decode cX9_sumOf 89 = .ok (.if_icmp .ge 9, 3) := by decide +kernel
theorem dX9_sumOf_98 : decode cX9_sumOf 98 = .ok (.aload_n 3, 1) := by decide +kernel
theorem dX9_sumOf_99 : decode cX9_sumOf 99 = .ok (.iload 10, 2) := by decide +kernel
theorem dX9_sumOf_101 : decode cX9_sumOf 101 = .ok (.sipush 1000, 3) := by decide +kernel
theorem dX9_sumOf_104 : decode cX9_sumOf 104 = .ok (.isub, 1) := by decide +kernel
theorem dX9_sumOf_105 : decode cX9_sumOf 105 = .ok (.invokevirtual 139, 3) := by decide +kernel
theorem dX9_sumOf_108 : decode cX9_sumOf 108 = .ok (.i2l, 1) := by decide +kernel
theorem dX9_sumOf_92 : decode cX9_sumOf 92 = .ok (.iload 10, 2) := by decide +kernel
theorem dX9_sumOf_94 : decode cX9_sumOf 94 = .ok (.i2l, 1) := by decide +kernel
theorem dX9_sumOf_95 : decode cX9_sumOf 95 = .ok (.goto 14, 3) := by decide +kernel
theorem dX9_sumOf_65 : decode cX9_sumOf 65 = .ok (.iconst (-1), 1) := by decide +kernel
theorem dX9_testHolds_0 : decode cX9_testHolds 0 = .ok (.iload_n 1, 1) := by decide +kernel
theorem dX9_testHolds_1 : decode cX9_testHolds 1 = .ok (.istore 4, 2) := by decide +kernel
theorem dX9_testHolds_3 : decode cX9_testHolds 3 = .ok (.iload 4, 2) := by decide +kernel
theorem dX9_testHolds_5 : decode cX9_testHolds 5 = .ok (.iload_n 2, 1) := by decide +kernel
theorem dX9_testHolds_39 : decode cX9_testHolds 39 = .ok (.aload_n 0, 1) := by decide +kernel
theorem dX9_testHolds_40 : decode cX9_testHolds 40 = .ok (.iload_n 1, 1) := by decide +kernel
theorem dX9_testHolds_41 : decode cX9_testHolds 41 = .ok (.iload 4, 2) := by decide +kernel
theorem dX9_testHolds_43 : decode cX9_testHolds 43 = .ok (.aload_n 3, 1) := by decide +kernel
theorem dX9_testHolds_44 : decode cX9_testHolds 44 = .ok (.invokevirtual 133, 3) := by decide +kernel
theorem dX9_testHolds_47 : decode cX9_testHolds 47 = .ok (.lstore 5, 2) := by decide +kernel
theorem dX9_testHolds_49 : decode cX9_testHolds 49 = .ok (.aload_n 0, 1) := by decide +kernel
theorem dX9_testHolds_50 : decode cX9_testHolds 50 = .ok (.iload 4, 2) := by decide +kernel
theorem dX9_testHolds_52 : decode cX9_testHolds 52 = .ok (.iconst 1, 1) := by decide +kernel
theorem dX9_testHolds_53 : decode cX9_testHolds 53 = .ok (.iadd, 1) := by decide +kernel
theorem dX9_testHolds_54 : decode cX9_testHolds 54 = .ok (.iload_n 2, 1) := by decide +kernel
theorem dX9_testHolds_55 : decode cX9_testHolds 55 = .ok (.aload_n 3, 1) := by decide +kernel
theorem dX9_testHolds_56 : decode cX9_testHolds 56 = .ok (.invokevirtual 133, 3) := by decide +kernel
theorem dX9_testHolds_59 : decode cX9_testHolds 59 = .ok (.lstore 7, 2) := by decide +kernel
theorem dX9_testHolds_61 : decode cX9_testHolds 61 = .ok (.lload 5, 2) := by decide +kernel
theorem dX9_testHolds_63 : decode cX9_testHolds 63 = .ok (.ldc2_w 137, 3) := by decide +kernel
theorem dX9_testHolds_66 : decode cX9_testHolds 66 = .ok (.lcmp, 1) := by decide +kernel
theorem dX9_testHolds_67 : decode cX9_testHolds 67 = .ok (.ifCond .eq 12, 3) := by decide +kernel
theorem dX9_testHolds_79 : decode cX9_testHolds 79 = .ok (.iconst 0, 1) := by decide +kernel
theorem dX9_testHolds_80 : decode cX9_testHolds 80 = .ok (.ireturn, 1) := by decide +kernel
theorem dX9_testHolds_70 : decode cX9_testHolds 70 = .ok (.lload 7, 2) := by decide +kernel
theorem dX9_testHolds_72 : decode cX9_testHolds 72 = .ok (.ldc2_w 137, 3) := by decide +kernel
theorem dX9_testHolds_75 : decode cX9_testHolds 75 = .ok (.lcmp, 1) := by decide +kernel
theorem dX9_testHolds_76 : decode cX9_testHolds 76 = .ok (.ifCond .ne 5, 3) := by decide +kernel
theorem dX9_testHolds_81 : decode cX9_testHolds 81 = .ok (.aload_n 0, 1) := by decide +kernel
theorem dX9_testHolds_82 : decode cX9_testHolds 82 = .ok (.iload 4, 2) := by decide +kernel
theorem dX9_testHolds_84 : decode cX9_testHolds 84 = .ok (.invokevirtual 125, 3) := by decide +kernel
theorem dX9_testHolds_87 : decode cX9_testHolds 87 = .ok (.lookupswitch 53 #[(2003, 25), (2004, 39)], 25) := by decide +kernel
theorem dX9_testHolds_112 : decode cX9_testHolds 112 = .ok (.lload 5, 2) := by decide +kernel
theorem dX9_testHolds_114 : decode cX9_testHolds 114 = .ok (.lload 7, 2) := by decide +kernel
theorem dX9_testHolds_116 : decode cX9_testHolds 116 = .ok (.lcmp, 1) := by decide +kernel
theorem dX9_testHolds_117 : decode cX9_testHolds 117 = .ok (.ifCond .le 7, 3) := by decide +kernel
theorem dX9_testHolds_124 : decode cX9_testHolds 124 = .ok (.iconst 0, 1) := by decide +kernel
theorem dX9_testHolds_125 : decode cX9_testHolds 125 = .ok (.ireturn, 1) := by decide +kernel
theorem dX9_testHolds_120 : decode cX9_testHolds 120 = .ok (.iconst 1, 1) := by decide +kernel
theorem dX9_testHolds_121 : decode cX9_testHolds 121 = .ok (.goto 4, 3) := by decide +kernel
theorem dX9_testHolds_126 : decode cX9_testHolds 126 = .ok (.lload 5, 2) := by decide +kernel
theorem dX9_testHolds_128 : decode cX9_testHolds 128 = .ok (.lload 7, 2) := by decide +kernel
theorem dX9_testHolds_130 : decode cX9_testHolds 130 = .ok (.lcmp, 1) := by decide +kernel
theorem dX9_testHolds_131 : decode cX9_testHolds 131 = .ok (.ifCond .ge 7, 3) := by decide +kernel
theorem dX9_testHolds_138 : decode cX9_testHolds 138 = .ok (.iconst 0, 1) := by decide +kernel
theorem dX9_testHolds_139 : decode cX9_testHolds 139 = .ok (.ireturn, 1) := by decide +kernel
theorem dX9_testHolds_134 : decode cX9_testHolds 134 = .ok (.iconst 1, 1) := by decide +kernel
theorem dX9_testHolds_135 : decode cX9_testHolds 135 = .ok (.goto 4, 3) := by decide +kernel
theorem dX9_testHolds_140 : decode cX9_testHolds 140 = .ok (.lload 5, 2) := by decide +kernel
theorem dX9_testHolds_142 : decode cX9_testHolds 142 = .ok (.lload 7, 2) := by decide +kernel
theorem dX9_testHolds_144 : decode cX9_testHolds 144 = .ok (.lcmp, 1) := by decide +kernel
theorem dX9_testHolds_145 : decode cX9_testHolds 145 = .ok (.ifCond .ne 7, 3) := by decide +kernel
theorem dX9_testHolds_152 : decode cX9_testHolds 152 = .ok (.iconst 0, 1) := by decide +kernel
theorem dX9_testHolds_153 : decode cX9_testHolds 153 = .ok (.ireturn, 1) := by decide +kernel
theorem dX9_testHolds_148 : decode cX9_testHolds 148 = .ok (.iconst 1, 1) := by decide +kernel
theorem dX9_testHolds_149 : decode cX9_testHolds 149 = .ok (.goto 4, 3) := by decide +kernel
theorem dX9_testHolds_6 : decode cX9_testHolds 6 = .ok (.if_icmp .ge 33, 3) := by decide +kernel
theorem dX9_testHolds_9 : decode cX9_testHolds 9 = .ok (.aload_n 0, 1) := by decide +kernel
theorem dX9_testHolds_10 : decode cX9_testHolds 10 = .ok (.iload 4, 2) := by decide +kernel
theorem dX9_testHolds_12 : decode cX9_testHolds 12 = .ok (.invokevirtual 125, 3) := by decide +kernel
theorem dX9_testHolds_15 : decode cX9_testHolds 15 = .ok (.sipush 2003, 3) := by decide +kernel
theorem dX9_testHolds_18 : decode cX9_testHolds 18 = .ok (.if_icmp .lt 15, 3) := by decide +kernel
theorem dX9_testHolds_33 : decode cX9_testHolds 33 = .ok (.iinc 4 1, 3) := by decide +kernel
theorem dX9_testHolds_36 : decode cX9_testHolds 36 = .ok (.goto (-33), 3) := by decide +kernel
theorem dX9_testHolds_21 : decode cX9_testHolds 21 = .ok (.aload_n 0, 1) := by decide +kernel
theorem dX9_testHolds_22 : decode cX9_testHolds 22 = .ok (.iload 4, 2) := by decide +kernel
theorem dX9_testHolds_24 : decode cX9_testHolds 24 = .ok (.invokevirtual 125, 3) := by decide +kernel
theorem dX9_testHolds_27 : decode cX9_testHolds 27 = .ok (.sipush 2005, 3) := by decide +kernel
theorem dX9_testHolds_30 : decode cX9_testHolds 30 = .ok (.if_icmp .le 9, 3) := by decide +kernel
theorem dX9_lineThatStops_0 : decode cX9_lineThatStops 0 = .ok (.iconst 0, 1) := by decide +kernel
theorem dX9_lineThatStops_1 : decode cX9_lineThatStops 1 = .ok (.istore_n 2, 1) := by decide +kernel
theorem dX9_lineThatStops_2 : decode cX9_lineThatStops 2 = .ok (.iconst 0, 1) := by decide +kernel
theorem dX9_lineThatStops_3 : decode cX9_lineThatStops 3 = .ok (.istore_n 3, 1) := by decide +kernel
theorem dX9_lineThatStops_4 : decode cX9_lineThatStops 4 = .ok (.iconst 1, 1) := by decide +kernel
theorem dX9_lineThatStops_5 : decode cX9_lineThatStops 5 = .ok (.istore 4, 2) := by decide +kernel
theorem dX9_lineThatStops_7 : decode cX9_lineThatStops 7 = .ok (.iconst 0, 1) := by decide +kernel
theorem dX9_lineThatStops_8 : decode cX9_lineThatStops 8 = .ok (.istore 5, 2) := by decide +kernel
theorem dX9_lineThatStops_10 : decode cX9_lineThatStops 10 = .ok (.iload 5, 2) := by decide +kernel
theorem dX9_lineThatStops_12 : decode cX9_lineThatStops 12 = .ok (.aload_n 0, 1) := by decide +kernel
theorem dX9_lineThatStops_13 : decode cX9_lineThatStops 13 = .ok (.getfield 23, 3) := by decide +kernel
theorem dX9_lineThatStops_16 : decode cX9_lineThatStops 16 = .ok (.if_icmp .ge 82, 3) := by decide +kernel
theorem dX9_lineThatStops_98 : decode cX9_lineThatStops 98 = .ok (.iconst (-1), 1) := by decide +kernel
theorem dX9_lineThatStops_99 : decode cX9_lineThatStops 99 = .ok (.ireturn, 1) := by decide +kernel
theorem dX9_lineThatStops_19 : decode cX9_lineThatStops 19 = .ok (.aload_n 0, 1) := by decide +kernel
theorem dX9_lineThatStops_20 : decode cX9_lineThatStops 20 = .ok (.iload 5, 2) := by decide +kernel
theorem dX9_lineThatStops_22 : decode cX9_lineThatStops 22 = .ok (.invokevirtual 125, 3) := by decide +kernel
theorem dX9_lineThatStops_25 : decode cX9_lineThatStops 25 = .ok (.istore 6, 2) := by decide +kernel
theorem dX9_lineThatStops_27 : decode cX9_lineThatStops 27 = .ok (.iload 6, 2) := by decide +kernel
theorem dX9_lineThatStops_29 : decode cX9_lineThatStops 29 = .ok (.sipush 2006, 3) := by decide +kernel
theorem dX9_lineThatStops_71 : decode cX9_lineThatStops 71 = .ok (.iload 6, 2) := by decide +kernel
theorem dX9_lineThatStops_73 : decode cX9_lineThatStops 73 = .ok (.sipush 2007, 3) := by decide +kernel
theorem dX9_lineThatStops_76 : decode cX9_lineThatStops 76 = .ok (.if_icmp .ne 16, 3) := by decide +kernel
theorem dX9_lineThatStops_92 : decode cX9_lineThatStops 92 = .ok (.iinc 5 1, 3) := by decide +kernel
theorem dX9_lineThatStops_95 : decode cX9_lineThatStops 95 = .ok (.goto (-85), 3) := by decide +kernel
theorem dX9_lineThatStops_79 : decode cX9_lineThatStops 79 = .ok (.iload 4, 2) := by decide +kernel
theorem dX9_lineThatStops_81 : decode cX9_lineThatStops 81 = .ok (.ifCond .eq 5, 3) := by decide +kernel
theorem dX9_lineThatStops_86 : decode cX9_lineThatStops 86 = .ok (.iconst 1, 1) := by decide +kernel
theorem dX9_lineThatStops_87 : decode cX9_lineThatStops 87 = .ok (.istore 4, 2) := by decide +kernel
theorem dX9_lineThatStops_89 : decode cX9_lineThatStops 89 = .ok (.iinc 2 1, 3) := by decide +kernel
theorem dX9_lineThatStops_84 : decode cX9_lineThatStops 84 = .ok (.iload_n 2, 1) := by decide +kernel
theorem dX9_lineThatStops_85 : decode cX9_lineThatStops 85 = .ok (.ireturn, 1) := by decide +kernel
theorem dX9_lineThatStops_32 : decode cX9_lineThatStops 32 = .ok (.if_icmp .eq 11, 3) := by decide +kernel
theorem dX9_lineThatStops_43 : decode cX9_lineThatStops 43 = .ok (.iload 4, 2) := by decide +kernel
theorem dX9_lineThatStops_45 : decode cX9_lineThatStops 45 = .ok (.ifCond .eq 18, 3) := by decide +kernel
theorem dX9_lineThatStops_63 : decode cX9_lineThatStops 63 = .ok (.iconst 0, 1) := by decide +kernel
theorem dX9_lineThatStops_64 : decode cX9_lineThatStops 64 = .ok (.istore 4, 2) := by decide +kernel
theorem dX9_lineThatStops_66 : decode cX9_lineThatStops 66 = .ok (.iload 5, 2) := by decide +kernel
theorem dX9_lineThatStops_68 : decode cX9_lineThatStops 68 = .ok (.iconst 1, 1) := by decide +kernel
theorem dX9_lineThatStops_69 : decode cX9_lineThatStops 69 = .ok (.iadd, 1) := by decide +kernel
theorem dX9_lineThatStops_70 : decode cX9_lineThatStops 70 = .ok (.istore_n 3, 1) := by decide +kernel
theorem dX9_lineThatStops_48 : decode cX9_lineThatStops 48 = .ok (.aload_n 0, 1) := by decide +kernel
theorem dX9_lineThatStops_49 : decode cX9_lineThatStops 49 = .ok (.iload_n 3, 1) := by decide +kernel
theorem dX9_lineThatStops_50 : decode cX9_lineThatStops 50 = .ok (.iload 5, 2) := by decide +kernel
theorem dX9_lineThatStops_52 : decode cX9_lineThatStops 52 = .ok (.aload_n 1, 1) := by decide +kernel
theorem dX9_lineThatStops_53 : decode cX9_lineThatStops 53 = .ok (.invokevirtual 129, 3) := by decide +kernel
theorem dX9_lineThatStops_56 : decode cX9_lineThatStops 56 = .ok (.ifCond .eq 7, 3) := by decide +kernel
theorem dX9_lineThatStops_59 : decode cX9_lineThatStops 59 = .ok (.iconst 1, 1) := by decide +kernel
theorem dX9_lineThatStops_60 : decode cX9_lineThatStops 60 = .ok (.goto 4, 3) := by decide +kernel
theorem dX9_lineThatStops_35 : decode cX9_lineThatStops 35 = .ok (.iload 6, 2) := by decide +kernel
theorem dX9_lineThatStops_37 : decode cX9_lineThatStops 37 = .ok (.sipush 2007, 3) := by decide +kernel
theorem dX9_lineThatStops_40 : decode cX9_lineThatStops 40 = .ok (.if_icmp .ne 31, 3) := by decide +kernel
theorem dX3_takeFrom_0 : decode cX3_takeFrom 0 = .ok (.aload_n 1, 1) := by decide +kernel
theorem dX3_takeFrom_1 : decode cX3_takeFrom 1 = .ok (.getfield 9, 3) := by decide +kernel
theorem dX3_takeFrom_4 : decode cX3_takeFrom 4 = .ok (.iconst 0, 1) := by decide +kernel
theorem dX3_takeFrom_5 : decode cX3_takeFrom 5 = .ok (.aload_n 0, 1) := by decide +kernel
theorem dX3_takeFrom_6 : decode cX3_takeFrom 6 = .ok (.getfield 9, 3) := by decide +kernel
theorem dX3_takeFrom_9 : decode cX3_takeFrom 9 = .ok (.iconst 0, 1) := by decide +kernel
theorem dX3_takeFrom_10 : decode cX3_takeFrom 10 = .ok (.bipush 12, 2) := by decide +kernel
theorem dX3_takeFrom_12 : decode cX3_takeFrom 12 = .ok (.invokestatic 21, 3) := by decide +kernel
theorem dX3_takeFrom_15 : decode cX3_takeFrom 15 = .ok (.aload_n 1, 1) := by decide +kernel
theorem dX3_takeFrom_16 : decode cX3_takeFrom 16 = .ok (.getfield 15, 3) := by decide +kernel
theorem dX3_takeFrom_19 : decode cX3_takeFrom 19 = .ok (.iconst 0, 1) := by decide +kernel
theorem dX3_takeFrom_20 : decode cX3_takeFrom 20 = .ok (.aload_n 0, 1) := by decide +kernel
theorem dX3_takeFrom_21 : decode cX3_takeFrom 21 = .ok (.getfield 15, 3) := by decide +kernel
theorem dX3_takeFrom_24 : decode cX3_takeFrom 24 = .ok (.iconst 0, 1) := by decide +kernel
theorem dX3_takeFrom_25 : decode cX3_takeFrom 25 = .ok (.bipush 12, 2) := by decide +kernel
theorem dX3_takeFrom_27 : decode cX3_takeFrom 27 = .ok (.invokestatic 21, 3) := by decide +kernel
theorem dX3_takeFrom_30 : decode cX3_takeFrom 30 = .ok (.aload_n 1, 1) := by decide +kernel
theorem dX3_takeFrom_31 : decode cX3_takeFrom 31 = .ok (.getfield 18, 3) := by decide +kernel
theorem dX3_takeFrom_34 : decode cX3_takeFrom 34 = .ok (.iconst 0, 1) := by decide +kernel
theorem dX3_takeFrom_35 : decode cX3_takeFrom 35 = .ok (.aload_n 0, 1) := by decide +kernel
theorem dX3_takeFrom_36 : decode cX3_takeFrom 36 = .ok (.getfield 18, 3) := by decide +kernel
theorem dX3_takeFrom_39 : decode cX3_takeFrom 39 = .ok (.iconst 0, 1) := by decide +kernel
theorem dX3_takeFrom_40 : decode cX3_takeFrom 40 = .ok (.bipush 12, 2) := by decide +kernel
theorem dX3_takeFrom_42 : decode cX3_takeFrom 42 = .ok (.invokestatic 21, 3) := by decide +kernel
theorem dX3_takeFrom_45 : decode cX3_takeFrom 45 = .ok (.aload_n 0, 1) := by decide +kernel
theorem dX3_takeFrom_46 : decode cX3_takeFrom 46 = .ok (.aload_n 1, 1) := by decide +kernel
theorem dX3_takeFrom_47 : decode cX3_takeFrom 47 = .ok (.getfield 27, 3) := by decide +kernel
theorem dX3_takeFrom_50 : decode cX3_takeFrom 50 = .ok (.putfield 27, 3) := by decide +kernel
theorem dX3_takeFrom_53 : decode cX3_takeFrom 53 = .ok (.return_, 1) := by decide +kernel
theorem dX3_tellStretch_0 : decode cX3_tellStretch 0 = .ok (.aload_n 0, 1) := by decide +kernel
theorem dX3_tellStretch_1 : decode cX3_tellStretch 1 = .ok (.getfield 27, 3) := by decide +kernel
theorem dX3_tellStretch_4 : decode cX3_tellStretch 4 = .ok (.bipush 12, 2) := by decide +kernel
theorem dX3_tellStretch_6 : decode cX3_tellStretch 6 = .ok (.if_icmp .lt 4, 3) := by decide +kernel
theorem dX3_tellStretch_10 : decode cX3_tellStretch 10 = .ok (.aload_n 0, 1) := by decide +kernel
theorem dX3_tellStretch_11 : decode cX3_tellStretch 11 = .ok (.getfield 9, 3) := by decide +kernel
theorem dX3_tellStretch_14 : decode cX3_tellStretch 14 = .ok (.aload_n 0, 1) := by decide +kernel
theorem dX3_tellStretch_15 : decode cX3_tellStretch 15 = .ok (.getfield 27, 3) := by decide +kernel
theorem dX3_tellStretch_18 : decode cX3_tellStretch 18 = .ok (.aload_n 1, 1) := by decide +kernel
theorem dX3_tellStretch_19 : decode cX3_tellStretch 19 = .ok (.ldc 80, 2) := by decide +kernel
theorem dX3_tellStretch_21 : decode cX3_tellStretch 21 = .ok (.invokevirtual 49, 3) := by decide +kernel
theorem dX3_tellStretch_32 : decode cX3_tellStretch 32 = .ok (.iastore, 1) := by decide +kernel
theorem dX3_tellStretch_33 : decode cX3_tellStretch 33 = .ok (.aload_n 1, 1) := by decide +kernel
theorem dX3_tellStretch_34 : decode cX3_tellStretch 34 = .ok (.aload_n 0, 1) := by decide +kernel
theorem dX3_tellStretch_35 : decode cX3_tellStretch 35 = .ok (.getfield 9, 3) := by decide +kernel
theorem dX3_tellStretch_38 : decode cX3_tellStretch 38 = .ok (.aload_n 0, 1) := by decide +kernel
theorem dX3_tellStretch_39 : decode cX3_tellStretch 39 = .ok (.getfield 27, 3) := by decide +kernel
theorem dX3_tellStretch_42 : decode cX3_tellStretch 42 = .ok (.iaload, 1) := by decide +kernel
theorem dX3_tellStretch_43 : decode cX3_tellStretch 43 = .ok (.iconst 1, 1) := by decide +kernel
theorem dX3_tellStretch_54 : decode cX3_tellStretch 54 = .ok (.invokevirtual 70, 3) := by decide +kernel
theorem dX3_tellStretch_57 : decode cX3_tellStretch 57 = .ok (.aload_n 0, 1) := by decide +kernel
theorem dX3_tellStretch_58 : decode cX3_tellStretch 58 = .ok (.getfield 15, 3) := by decide +kernel
theorem dX3_tellStretch_61 : decode cX3_tellStretch 61 = .ok (.aload_n 0, 1) := by decide +kernel
theorem dX3_tellStretch_62 : decode cX3_tellStretch 62 = .ok (.getfield 27, 3) := by decide +kernel
theorem dX3_tellStretch_65 : decode cX3_tellStretch 65 = .ok (.aload_n 1, 1) := by decide +kernel
theorem dX3_tellStretch_66 : decode cX3_tellStretch 66 = .ok (.iconst 0, 1) := by decide +kernel
theorem dX3_tellStretch_67 : decode cX3_tellStretch 67 = .ok (.bipush 15, 2) := by decide +kernel
theorem dX3_tellStretch_69 : decode cX3_tellStretch 69 = .ok (.invokevirtual 64, 3) := by decide +kernel
theorem dX3_tellStretch_72 : decode cX3_tellStretch 72 = .ok (.iastore, 1) := by decide +kernel
theorem dX3_tellStretch_73 : decode cX3_tellStretch 73 = .ok (.aload_n 1, 1) := by decide +kernel
theorem dX3_tellStretch_74 : decode cX3_tellStretch 74 = .ok (.ldc 84, 2) := by decide +kernel
theorem dX3_tellStretch_76 : decode cX3_tellStretch 76 = .ok (.invokevirtual 70, 3) := by decide +kernel
theorem dX3_tellStretch_79 : decode cX3_tellStretch 79 = .ok (.aload_n 0, 1) := by decide +kernel
theorem dX3_tellStretch_80 : decode cX3_tellStretch 80 = .ok (.getfield 18, 3) := by decide +kernel
theorem dX3_tellStretch_83 : decode cX3_tellStretch 83 = .ok (.aload_n 0, 1) := by decide +kernel
theorem dX3_tellStretch_84 : decode cX3_tellStretch 84 = .ok (.getfield 27, 3) := by decide +kernel
theorem dX3_tellStretch_87 : decode cX3_tellStretch 87 = .ok (.aload_n 1, 1) := by decide +kernel
theorem dX3_tellStretch_88 : decode cX3_tellStretch 88 = .ok (.aload_n 0, 1) := by decide +kernel
theorem dX3_tellStretch_89 : decode cX3_tellStretch 89 = .ok (.getfield 15, 3) := by decide +kernel
theorem dX3_tellStretch_92 : decode cX3_tellStretch 92 = .ok (.aload_n 0, 1) := by decide +kernel
theorem dX3_tellStretch_93 : decode cX3_tellStretch 93 = .ok (.getfield 27, 3) := by decide +kernel
theorem dX3_tellStretch_96 : decode cX3_tellStretch 96 = .ok (.iaload, 1) := by decide +kernel
theorem dX3_tellStretch_97 : decode cX3_tellStretch 97 = .ok (.bipush 15, 2) := by decide +kernel
theorem dX3_tellStretch_99 : decode cX3_tellStretch 99 = .ok (.invokevirtual 64, 3) := by decide +kernel
theorem dX3_tellStretch_102 : decode cX3_tellStretch 102 = .ok (.iastore, 1) := by decide +kernel
theorem dX3_tellStretch_103 : decode cX3_tellStretch 103 = .ok (.return_, 1) := by decide +kernel
theorem dX3_tellStretch_44 : decode cX3_tellStretch 44 = .ok (.if_icmp .ne 8, 3) := by decide +kernel
theorem dX3_tellStretch_52 : decode cX3_tellStretch 52 = .ok (.ldc 82, 2) := by decide +kernel
theorem dX3_tellStretch_47 : decode cX3_tellStretch 47 = .ok (.ldc 80, 2) := by decide +kernel
theorem dX3_tellStretch_49 : decode cX3_tellStretch 49 = .ok (.goto 5, 3) := by decide +kernel
theorem dX3_tellStretch_24 : decode cX3_tellStretch 24 = .ok (.ifCond .eq 7, 3) := by decide +kernel
theorem dX3_tellStretch_31 : decode cX3_tellStretch 31 = .ok (.iconst 0, 1) := by decide +kernel
theorem dX3_tellStretch_27 : decode cX3_tellStretch 27 = .ok (.iconst 1, 1) := by decide +kernel
theorem dX3_tellStretch_28 : decode cX3_tellStretch 28 = .ok (.goto 4, 3) := by decide +kernel
theorem dX3_tellStretch_9 : decode cX3_tellStretch 9 = .ok (.return_, 1) := by decide +kernel
theorem dX3_tellLoss_0 : decode cX3_tellLoss 0 = .ok (.aload_n 1, 1) := by decide +kernel
theorem dX3_tellLoss_1 : decode cX3_tellLoss 1 = .ok (.ldc 47, 2) := by decide +kernel
theorem dX3_tellLoss_3 : decode cX3_tellLoss 3 = .ok (.invokevirtual 49, 3) := by decide +kernel
theorem dX3_tellLoss_32 : decode cX3_tellLoss 32 = .ok (.istore_n 2, 1) := by decide +kernel
theorem dX3_tellLoss_33 : decode cX3_tellLoss 33 = .ok (.aload_n 0, 1) := by decide +kernel
theorem dX3_tellLoss_34 : decode cX3_tellLoss 34 = .ok (.getfield 27, 3) := by decide +kernel
theorem dX3_tellLoss_37 : decode cX3_tellLoss 37 = .ok (.bipush 12, 2) := by decide +kernel
theorem dX3_tellLoss_39 : decode cX3_tellLoss 39 = .ok (.if_icmp .lt 17, 3) := by decide +kernel
theorem dX3_tellLoss_56 : decode cX3_tellLoss 56 = .ok (.aload_n 1, 1) := by decide +kernel
theorem dX3_tellLoss_57 : decode cX3_tellLoss 57 = .ok (.ldc 53, 2) := by decide +kernel
theorem dX3_tellLoss_59 : decode cX3_tellLoss 59 = .ok (.invokevirtual 61, 3) := by decide +kernel
theorem dX3_tellLoss_62 : decode cX3_tellLoss 62 = .ok (.ifCond .eq 55, 3) := by decide +kernel
theorem dX3_tellLoss_117 : decode cX3_tellLoss 117 = .ok (.aload_n 1, 1) := by decide +kernel
theorem dX3_tellLoss_118 : decode cX3_tellLoss 118 = .ok (.ldc 55, 2) := by decide +kernel
theorem dX3_tellLoss_120 : decode cX3_tellLoss 120 = .ok (.invokevirtual 61, 3) := by decide +kernel
theorem dX3_tellLoss_123 : decode cX3_tellLoss 123 = .ok (.ifCond .eq 16, 3) := by decide +kernel
theorem dX3_tellLoss_139 : decode cX3_tellLoss 139 = .ok (.aload_n 1, 1) := by decide +kernel
theorem dX3_tellLoss_140 : decode cX3_tellLoss 140 = .ok (.ldc 47, 2) := by decide +kernel
theorem dX3_tellLoss_142 : decode cX3_tellLoss 142 = .ok (.invokevirtual 70, 3) := by decide +kernel
theorem dX3_tellLoss_145 : decode cX3_tellLoss 145 = .ok (.aload_n 0, 1) := by decide +kernel
theorem dX3_tellLoss_146 : decode cX3_tellLoss 146 = .ok (.aload_n 1, 1) := by decide +kernel
theorem dX3_tellLoss_147 : decode cX3_tellLoss 147 = .ok (.invokevirtual 74, 3) := by decide +kernel
theorem dX3_tellLoss_150 : decode cX3_tellLoss 150 = .ok (.aload_n 1, 1) := by decide +kernel
theorem dX3_tellLoss_151 : decode cX3_tellLoss 151 = .ok (.invokevirtual 77, 3) := by decide +kernel
theorem dX3_tellLoss_154 : decode cX3_tellLoss 154 = .ok (.aload_n 0, 1) := by decide +kernel
theorem dX3_tellLoss_155 : decode cX3_tellLoss 155 = .ok (.dup, 1) := by decide +kernel
theorem dX3_tellLoss_156 : decode cX3_tellLoss 156 = .ok (.getfield 27, 3) := by decide +kernel
theorem dX3_tellLoss_159 : decode cX3_tellLoss 159 = .ok (.iconst 1, 1) := by decide +kernel
theorem dX3_tellLoss_160 : decode cX3_tellLoss 160 = .ok (.iadd, 1) := by decide +kernel
theorem dX3_tellLoss_161 : decode cX3_tellLoss 161 = .ok (.putfield 27, 3) := by decide +kernel
theorem dX3_tellLoss_164 : decode cX3_tellLoss 164 = .ok (.return_, 1) := by decide +kernel
theorem dX3_tellLoss_126 : decode cX3_tellLoss 126 = .ok (.aload_n 0, 1) := by decide +kernel
theorem dX3_tellLoss_127 : decode cX3_tellLoss 127 = .ok (.getfield 9, 3) := by decide +kernel
theorem dX3_tellLoss_130 : decode cX3_tellLoss 130 = .ok (.aload_n 0, 1) := by decide +kernel
theorem dX3_tellLoss_131 : decode cX3_tellLoss 131 = .ok (.getfield 27, 3) := by decide +kernel
theorem dX3_tellLoss_134 : decode cX3_tellLoss 134 = .ok (.iconst 3, 1) := by decide +kernel
theorem dX3_tellLoss_135 : decode cX3_tellLoss 135 = .ok (.iastore, 1) := by decide +kernel
theorem dX3_tellLoss_136 : decode cX3_tellLoss 136 = .ok (.goto 14, 3) := by decide +kernel
theorem dX3_tellLoss_65 : decode cX3_tellLoss 65 = .ok (.aload_n 0, 1) := by decide +kernel
theorem dX3_tellLoss_66 : decode cX3_tellLoss 66 = .ok (.getfield 9, 3) := by decide +kernel
theorem dX3_tellLoss_69 : decode cX3_tellLoss 69 = .ok (.aload_n 0, 1) := by decide +kernel
theorem dX3_tellLoss_70 : decode cX3_tellLoss 70 = .ok (.getfield 27, 3) := by decide +kernel
theorem dX3_tellLoss_73 : decode cX3_tellLoss 73 = .ok (.iconst 2, 1) := by decide +kernel
theorem dX3_tellLoss_74 : decode cX3_tellLoss 74 = .ok (.iastore, 1) := by decide +kernel
theorem dX3_tellLoss_75 : decode cX3_tellLoss 75 = .ok (.aload_n 0, 1) := by decide +kernel
theorem dX3_tellLoss_76 : decode cX3_tellLoss 76 = .ok (.getfield 15, 3) := by decide +kernel
theorem dX3_tellLoss_79 : decode cX3_tellLoss 79 = .ok (.aload_n 0, 1) := by decide +kernel
theorem dX3_tellLoss_80 : decode cX3_tellLoss 80 = .ok (.getfield 27, 3) := by decide +kernel
theorem dX3_tellLoss_83 : decode cX3_tellLoss 83 = .ok (.aload_n 1, 1) := by decide +kernel
theorem dX3_tellLoss_84 : decode cX3_tellLoss 84 = .ok (.iconst 1, 1) := by decide +kernel
theorem dX3_tellLoss_85 : decode cX3_tellLoss 85 = .ok (.bipush 99, 2) := by decide +kernel
theorem dX3_tellLoss_87 : decode cX3_tellLoss 87 = .ok (.invokevirtual 64, 3) := by decide +kernel
theorem dX3_tellLoss_90 : decode cX3_tellLoss 90 = .ok (.iastore, 1) := by decide +kernel
theorem dX3_tellLoss_91 : decode cX3_tellLoss 91 = .ok (.aload_n 1, 1) := by decide +kernel
theorem dX3_tellLoss_92 : decode cX3_tellLoss 92 = .ok (.ldc 68, 2) := by decide +kernel
theorem dX3_tellLoss_94 : decode cX3_tellLoss 94 = .ok (.invokevirtual 70, 3) := by decide +kernel
theorem dX3_tellLoss_97 : decode cX3_tellLoss 97 = .ok (.aload_n 0, 1) := by decide +kernel
theorem dX3_tellLoss_98 : decode cX3_tellLoss 98 = .ok (.getfield 18, 3) := by decide +kernel
theorem dX3_tellLoss_101 : decode cX3_tellLoss 101 = .ok (.aload_n 0, 1) := by decide +kernel
theorem dX3_tellLoss_102 : decode cX3_tellLoss 102 = .ok (.getfield 27, 3) := by decide +kernel
theorem dX3_tellLoss_105 : decode cX3_tellLoss 105 = .ok (.aload_n 1, 1) := by decide +kernel
theorem dX3_tellLoss_106 : decode cX3_tellLoss 106 = .ok (.iconst 0, 1) := by decide +kernel
theorem dX3_tellLoss_107 : decode cX3_tellLoss 107 = .ok (.sipush 255, 3) := by decide +kernel
theorem dX3_tellLoss_110 : decode cX3_tellLoss 110 = .ok (.invokevirtual 64, 3) := by decide +kernel
theorem dX3_tellLoss_113 : decode cX3_tellLoss 113 = .ok (.iastore, 1) := by decide +kernel
theorem dX3_tellLoss_114 : decode cX3_tellLoss 114 = .ok (.goto 36, 3) := by decide +kernel
theorem dX3_tellLoss_42 : decode cX3_tellLoss 42 = .ok (.aload_n 1, 1) := by decide +kernel
theorem dX3_tellLoss_43 : decode cX3_tellLoss 43 = .ok (.iload_n 2, 1) := by decide +kernel
theorem dX3_tellLoss_44 : decode cX3_tellLoss 44 = .ok (.ifCond .eq 7, 3) := by decide +kernel
theorem dX3_tellLoss_51 : decode cX3_tellLoss 51 = .ok (.iconst 1, 1) := by decide +kernel
theorem dX3_tellLoss_52 : decode cX3_tellLoss 52 = .ok (.invokevirtual 57, 3) := by decide +kernel
theorem dX3_tellLoss_55 : decode cX3_tellLoss 55 = .ok (.return_, 1) := by decide +kernel
theorem dX3_tellLoss_47 : decode cX3_tellLoss 47 = .ok (.iconst 3, 1) := by decide +kernel
theorem dX3_tellLoss_48 : decode cX3_tellLoss 48 = .ok (.goto 4, 3) := by decide +kernel
theorem dX3_tellLoss_6 : decode cX3_tellLoss 6 = .ok (.ifCond .ne 21, 3) := by decide +kernel
theorem dX3_tellLoss_27 : decode cX3_tellLoss 27 = .ok (.iconst 1, 1) := by decide +kernel
theorem dX3_tellLoss_28 : decode cX3_tellLoss 28 = .ok (.goto 4, 3) := by decide +kernel
theorem dX3_tellLoss_9 : decode cX3_tellLoss 9 = .ok (.aload_n 1, 1) := by decide +kernel
theorem dX3_tellLoss_10 : decode cX3_tellLoss 10 = .ok (.ldc 53, 2) := by decide +kernel
theorem dX3_tellLoss_12 : decode cX3_tellLoss 12 = .ok (.invokevirtual 49, 3) := by decide +kernel
theorem dX3_tellLoss_15 : decode cX3_tellLoss 15 = .ok (.ifCond .ne 12, 3) := by decide +kernel
theorem dX3_tellLoss_18 : decode cX3_tellLoss 18 = .ok (.aload_n 1, 1) := by decide +kernel
theorem dX3_tellLoss_19 : decode cX3_tellLoss 19 = .ok (.ldc 55, 2) := by decide +kernel
theorem dX3_tellLoss_21 : decode cX3_tellLoss 21 = .ok (.invokevirtual 49, 3) := by decide +kernel
theorem dX3_tellLoss_24 : decode cX3_tellLoss 24 = .ok (.ifCond .eq 7, 3) := by decide +kernel
theorem dX3_tellLoss_31 : decode cX3_tellLoss 31 = .ok (.iconst 0, 1) := by decide +kernel
theorem dX3_tell_0 : decode cX3_tell 0 = .ok (.aload_n 1, 1) := by decide +kernel
theorem dX3_tell_1 : decode cX3_tell 1 = .ok (.invokevirtual 31, 3) := by decide +kernel
theorem dX3_tell_4 : decode cX3_tell 4 = .ok (.aload_n 0, 1) := by decide +kernel
theorem dX3_tell_5 : decode cX3_tell 5 = .ok (.iconst 0, 1) := by decide +kernel
theorem dX3_tell_6 : decode cX3_tell 6 = .ok (.putfield 27, 3) := by decide +kernel
theorem dX3_tell_9 : decode cX3_tell 9 = .ok (.iconst 0, 1) := by decide +kernel
theorem dX3_tell_10 : decode cX3_tell 10 = .ok (.istore_n 2, 1) := by decide +kernel
theorem dX3_tell_11 : decode cX3_tell 11 = .ok (.iload_n 2, 1) := by decide +kernel
theorem dX3_tell_12 : decode cX3_tell 12 = .ok (.bipush 12, 2) := by decide +kernel
theorem dX3_tell_14 : decode cX3_tell 14 = .ok (.if_icmp .gt 21, 3) := by decide +kernel
theorem dX3_tell_35 : decode cX3_tell 35 = .ok (.aload_n 1, 1) := by decide +kernel
theorem dX3_tell_36 : decode cX3_tell 36 = .ok (.invokevirtual 44, 3) := by decide +kernel
theorem dX3_tell_39 : decode cX3_tell 39 = .ok (.ireturn, 1) := by decide +kernel
theorem dX3_tell_17 : decode cX3_tell 17 = .ok (.aload_n 1, 1) := by decide +kernel
theorem dX3_tell_18 : decode cX3_tell 18 = .ok (.invokevirtual 36, 3) := by decide +kernel
theorem dX3_tell_21 : decode cX3_tell 21 = .ok (.ifCond .eq 14, 3) := by decide +kernel
theorem dX3_tell_24 : decode cX3_tell 24 = .ok (.aload_n 0, 1) := by decide +kernel
theorem dX3_tell_25 : decode cX3_tell 25 = .ok (.aload_n 1, 1) := by decide +kernel
theorem dX3_tell_26 : decode cX3_tell 26 = .ok (.invokevirtual 40, 3) := by decide +kernel
theorem dX3_tell_29 : decode cX3_tell 29 = .ok (.iinc 2 1, 3) := by decide +kernel
theorem dX3_tell_32 : decode cX3_tell 32 = .ok (.goto (-21), 3) := by decide +kernel
theorem dX3_takes_0 : decode cX3_takes 0 = .ok (.iload_n 1, 1) := by decide +kernel
theorem dX3_takes_1 : decode cX3_takes 1 = .ok (.ifCond .lt 9, 3) := by decide +kernel
theorem dX3_takes_10 : decode cX3_takes 10 = .ok (.iconst 0, 1) := by decide +kernel
theorem dX3_takes_11 : decode cX3_takes 11 = .ok (.ireturn, 1) := by decide +kernel
theorem dX3_takes_4 : decode cX3_takes 4 = .ok (.iload_n 1, 1) := by decide +kernel
theorem dX3_takes_5 : decode cX3_takes 5 = .ok (.bipush 12, 2) := by decide +kernel
theorem dX3_takes_7 : decode cX3_takes 7 = .ok (.if_icmp .lt 5, 3) := by decide +kernel
theorem dX3_takes_12 : decode cX3_takes 12 = .ok (.aload_n 0, 1) := by decide +kernel
theorem dX3_takes_13 : decode cX3_takes 13 = .ok (.getfield 15, 3) := by decide +kernel
theorem dX3_takes_16 : decode cX3_takes 16 = .ok (.iload_n 1, 1) := by decide +kernel
theorem dX3_takes_17 : decode cX3_takes 17 = .ok (.iaload, 1) := by decide +kernel
theorem dX3_takes_18 : decode cX3_takes 18 = .ok (.istore 4, 2) := by decide +kernel
theorem dX3_takes_20 : decode cX3_takes 20 = .ok (.aload_n 0, 1) := by decide +kernel
theorem dX3_takes_21 : decode cX3_takes 21 = .ok (.getfield 18, 3) := by decide +kernel
theorem dX3_takes_24 : decode cX3_takes 24 = .ok (.iload_n 1, 1) := by decide +kernel
theorem dX3_takes_25 : decode cX3_takes 25 = .ok (.iaload, 1) := by decide +kernel
theorem dX3_takes_26 : decode cX3_takes 26 = .ok (.istore 5, 2) := by decide +kernel
theorem dX3_takes_28 : decode cX3_takes 28 = .ok (.aload_n 0, 1) := by decide +kernel
theorem dX3_takes_29 : decode cX3_takes 29 = .ok (.getfield 9, 3) := by decide +kernel
theorem dX3_takes_32 : decode cX3_takes 32 = .ok (.iload_n 1, 1) := by decide +kernel
theorem dX3_takes_33 : decode cX3_takes 33 = .ok (.iaload, 1) := by decide +kernel
theorem dX3_takes_34 : decode cX3_takes 34 = .ok (.tableswitch 105 0 2 #[26, 52, 78], 26) := by decide +kernel
theorem dX3_takes_60 : decode cX3_takes 60 = .ok (.aload_n 3, 1) := by decide +kernel
theorem dX3_takes_61 : decode cX3_takes 61 = .ok (.iload_n 2, 1) := by decide +kernel
theorem dX3_takes_62 : decode cX3_takes 62 = .ok (.invokevirtual 106, 3) := by decide +kernel
theorem dX3_takes_65 : decode cX3_takes 65 = .ok (.iload 4, 2) := by decide +kernel
theorem dX3_takes_67 : decode cX3_takes 67 = .ok (.if_icmp .lt 17, 3) := by decide +kernel
theorem dX3_takes_84 : decode cX3_takes 84 = .ok (.iconst 0, 1) := by decide +kernel
theorem dX3_takes_85 : decode cX3_takes 85 = .ok (.ireturn, 1) := by decide +kernel
theorem dX3_takes_70 : decode cX3_takes 70 = .ok (.aload_n 3, 1) := by decide +kernel
theorem dX3_takes_71 : decode cX3_takes 71 = .ok (.iload_n 2, 1) := by decide +kernel
theorem dX3_takes_72 : decode cX3_takes 72 = .ok (.invokevirtual 106, 3) := by decide +kernel
theorem dX3_takes_75 : decode cX3_takes 75 = .ok (.iload 5, 2) := by decide +kernel
theorem dX3_takes_77 : decode cX3_takes 77 = .ok (.if_icmp .gt 7, 3) := by decide +kernel
theorem dX3_takes_80 : decode cX3_takes 80 = .ok (.iconst 1, 1) := by decide +kernel
theorem dX3_takes_81 : decode cX3_takes 81 = .ok (.goto 4, 3) := by decide +kernel
theorem dX3_takes_86 : decode cX3_takes 86 = .ok (.aload_n 3, 1) := by decide +kernel
theorem dX3_takes_87 : decode cX3_takes 87 = .ok (.iload_n 2, 1) := by decide +kernel
theorem dX3_takes_88 : decode cX3_takes 88 = .ok (.invokevirtual 109, 3) := by decide +kernel
theorem dX3_takes_91 : decode cX3_takes 91 = .ok (.iload 4, 2) := by decide +kernel
theorem dX3_takes_93 : decode cX3_takes 93 = .ok (.if_icmp .lt 17, 3) := by decide +kernel
theorem dX3_takes_110 : decode cX3_takes 110 = .ok (.iconst 0, 1) := by decide +kernel
theorem dX3_takes_111 : decode cX3_takes 111 = .ok (.ireturn, 1) := by decide +kernel
theorem dX3_takes_96 : decode cX3_takes 96 = .ok (.aload_n 3, 1) := by decide +kernel
theorem dX3_takes_97 : decode cX3_takes 97 = .ok (.iload_n 2, 1) := by decide +kernel
theorem dX3_takes_98 : decode cX3_takes 98 = .ok (.invokevirtual 109, 3) := by decide +kernel
theorem dX3_takes_101 : decode cX3_takes 101 = .ok (.iload 5, 2) := by decide +kernel
theorem dX3_takes_103 : decode cX3_takes 103 = .ok (.if_icmp .gt 7, 3) := by decide +kernel
theorem dX3_takes_106 : decode cX3_takes 106 = .ok (.iconst 1, 1) := by decide +kernel
theorem dX3_takes_107 : decode cX3_takes 107 = .ok (.goto 4, 3) := by decide +kernel
theorem dX3_takes_112 : decode cX3_takes 112 = .ok (.iload_n 2, 1) := by decide +kernel
theorem dX3_takes_113 : decode cX3_takes 113 = .ok (.iload 5, 2) := by decide +kernel
theorem dX3_takes_115 : decode cX3_takes 115 = .ok (.if_icmp .lt 22, 3) := by decide +kernel
theorem dX3_takes_137 : decode cX3_takes 137 = .ok (.iconst 0, 1) := by decide +kernel
theorem dX3_takes_138 : decode cX3_takes 138 = .ok (.ireturn, 1) := by decide +kernel
theorem dX3_takes_118 : decode cX3_takes 118 = .ok (.iload 4, 2) := by decide +kernel
theorem dX3_takes_120 : decode cX3_takes 120 = .ok (.ifCond .le 17, 3) := by decide +kernel
theorem dX3_takes_123 : decode cX3_takes 123 = .ok (.iload_n 2, 1) := by decide +kernel
theorem dX3_takes_124 : decode cX3_takes 124 = .ok (.iload 5, 2) := by decide +kernel
theorem dX3_takes_126 : decode cX3_takes 126 = .ok (.isub, 1) := by decide +kernel
theorem dX3_takes_127 : decode cX3_takes 127 = .ok (.iload 4, 2) := by decide +kernel
theorem dX3_takes_129 : decode cX3_takes 129 = .ok (.irem, 1) := by decide +kernel
theorem dX3_takes_130 : decode cX3_takes 130 = .ok (.ifCond .ne 7, 3) := by decide +kernel
theorem dX3_takes_133 : decode cX3_takes 133 = .ok (.iconst 1, 1) := by decide +kernel
theorem dX3_takes_134 : decode cX3_takes 134 = .ok (.goto 4, 3) := by decide +kernel
theorem dX3_takes_139 : decode cX3_takes 139 = .ok (.iconst 0, 1) := by decide +kernel
theorem dX3_takes_140 : decode cX3_takes 140 = .ok (.ireturn, 1) := by decide +kernel
theorem dX1_stitchAt_0 : decode cX1_stitchAt 0 = .ok (.iload_n 1, 1) := by decide +kernel
theorem dX1_stitchAt_1 : decode cX1_stitchAt 1 = .ok (.ifCond .lt 19, 3) := by decide +kernel
theorem dX1_stitchAt_20 : decode cX1_stitchAt 20 = .ok (.iconst 4, 1) := by decide +kernel
theorem dX1_stitchAt_21 : decode cX1_stitchAt 21 = .ok (.ireturn, 1) := by decide +kernel
theorem dX1_stitchAt_4 : decode cX1_stitchAt 4 = .ok (.iload_n 1, 1) := by decide +kernel
theorem dX1_stitchAt_5 : decode cX1_stitchAt 5 = .ok (.sipush 256, 3) := by decide +kernel
theorem dX1_stitchAt_8 : decode cX1_stitchAt 8 = .ok (.if_icmp .ge 12, 3) := by decide +kernel
theorem dX1_stitchAt_11 : decode cX1_stitchAt 11 = .ok (.aload_n 0, 1) := by decide +kernel
theorem dX1_stitchAt_12 : decode cX1_stitchAt 12 = .ok (.getfield 9, 3) := by decide +kernel
theorem dX1_stitchAt_15 : decode cX1_stitchAt 15 = .ok (.iload_n 1, 1) := by decide +kernel
theorem dX1_stitchAt_16 : decode cX1_stitchAt 16 = .ok (.baload, 1) := by decide +kernel
theorem dX1_stitchAt_17 : decode cX1_stitchAt 17 = .ok (.goto 4, 3) := by decide +kernel
theorem dX1_setStitch_0 : decode cX1_setStitch 0 = .ok (.iload_n 1, 1) := by decide +kernel
theorem dX1_setStitch_1 : decode cX1_setStitch 1 = .ok (.ifCond .lt 18, 3) := by decide +kernel
theorem dX1_setStitch_19 : decode cX1_setStitch 19 = .ok (.return_, 1) := by decide +kernel
theorem dX1_setStitch_4 : decode cX1_setStitch 4 = .ok (.iload_n 1, 1) := by decide +kernel
theorem dX1_setStitch_5 : decode cX1_setStitch 5 = .ok (.sipush 256, 3) := by decide +kernel
theorem dX1_setStitch_8 : decode cX1_setStitch 8 = .ok (.if_icmp .ge 11, 3) := by decide +kernel
theorem dX1_setStitch_11 : decode cX1_setStitch 11 = .ok (.aload_n 0, 1) := by decide +kernel
theorem dX1_setStitch_12 : decode cX1_setStitch 12 = .ok (.getfield 9, 3) := by decide +kernel
theorem dX1_setStitch_15 : decode cX1_setStitch 15 = .ok (.iload_n 1, 1) := by decide +kernel
theorem dX1_setStitch_16 : decode cX1_setStitch 16 = .ok (.iload_n 2, 1) := by decide +kernel
theorem dX1_setStitch_17 : decode cX1_setStitch 17 = .ok (.i2b, 1) := by decide +kernel
theorem dX1_setStitch_18 : decode cX1_setStitch 18 = .ok (.bastore, 1) := by decide +kernel
theorem dX3_wear_0 : decode cX3_wear 0 = .ok (.iconst 0, 1) := by decide +kernel
theorem dX3_wear_1 : decode cX3_wear 1 = .ok (.istore_n 3, 1) := by decide +kernel
theorem dX3_wear_2 : decode cX3_wear 2 = .ok (.iload_n 3, 1) := by decide +kernel
theorem dX3_wear_3 : decode cX3_wear 3 = .ok (.aload_n 0, 1) := by decide +kernel
theorem dX3_wear_4 : decode cX3_wear 4 = .ok (.getfield 27, 3) := by decide +kernel
theorem dX3_wear_7 : decode cX3_wear 7 = .ok (.if_icmp .ge 81, 3) := by decide +kernel
theorem dX3_wear_88 : decode cX3_wear 88 = .ok (.return_, 1) := by decide +kernel
theorem dX3_wear_10 : decode cX3_wear 10 = .ok (.iload_n 3, 1) := by decide +kernel
theorem dX3_wear_11 : decode cX3_wear 11 = .ok (.bipush 12, 2) := by decide +kernel
theorem dX3_wear_13 : decode cX3_wear 13 = .ok (.if_icmp .ge 75, 3) := by decide +kernel
theorem dX3_wear_16 : decode cX3_wear 16 = .ok (.iconst 0, 1) := by decide +kernel
theorem dX3_wear_17 : decode cX3_wear 17 = .ok (.istore 4, 2) := by decide +kernel
theorem dX3_wear_19 : decode cX3_wear 19 = .ok (.iload 4, 2) := by decide +kernel
theorem dX3_wear_21 : decode cX3_wear 21 = .ok (.aload_n 2, 1) := by decide +kernel
theorem dX3_wear_22 : decode cX3_wear 22 = .ok (.invokevirtual 86, 3) := by decide +kernel
theorem dX3_wear_25 : decode cX3_wear 25 = .ok (.if_icmp .ge 57, 3) := by decide +kernel
theorem dX3_wear_82 : decode cX3_wear 82 = .ok (.iinc 3 1, 3) := by decide +kernel
theorem dX3_wear_85 : decode cX3_wear 85 = .ok (.goto (-83), 3) := by decide +kernel
theorem dX3_wear_28 : decode cX3_wear 28 = .ok (.aload_n 0, 1) := by decide +kernel
theorem dX3_wear_29 : decode cX3_wear 29 = .ok (.iload_n 3, 1) := by decide +kernel
theorem dX3_wear_30 : decode cX3_wear 30 = .ok (.iload 4, 2) := by decide +kernel
theorem dX3_wear_32 : decode cX3_wear 32 = .ok (.aload_n 2, 1) := by decide +kernel
theorem dX3_wear_33 : decode cX3_wear 33 = .ok (.invokevirtual 92, 3) := by decide +kernel
theorem dX3_wear_36 : decode cX3_wear 36 = .ok (.ifCond .eq 13, 3) := by decide +kernel
theorem dX3_wear_49 : decode cX3_wear 49 = .ok (.aload_n 0, 1) := by decide +kernel
theorem dX3_wear_50 : decode cX3_wear 50 = .ok (.getfield 9, 3) := by decide +kernel
theorem dX3_wear_53 : decode cX3_wear 53 = .ok (.iload_n 3, 1) := by decide +kernel
theorem dX3_wear_54 : decode cX3_wear 54 = .ok (.iaload, 1) := by decide +kernel
theorem dX3_wear_55 : decode cX3_wear 55 = .ok (.iconst 3, 1) := by decide +kernel
theorem dX3_wear_56 : decode cX3_wear 56 = .ok (.if_icmp .ne 20, 3) := by decide +kernel
theorem dX3_wear_76 : decode cX3_wear 76 = .ok (.iinc 4 1, 3) := by decide +kernel
theorem dX3_wear_79 : decode cX3_wear 79 = .ok (.goto (-60), 3) := by decide +kernel
theorem dX3_wear_59 : decode cX3_wear 59 = .ok (.aload_n 1, 1) := by decide +kernel
theorem dX3_wear_60 : decode cX3_wear 60 = .ok (.iload 4, 2) := by decide +kernel
theorem dX3_wear_62 : decode cX3_wear 62 = .ok (.invokevirtual 102, 3) := by decide +kernel
theorem dX3_wear_65 : decode cX3_wear 65 = .ok (.iconst 2, 1) := by decide +kernel
theorem dX3_wear_66 : decode cX3_wear 66 = .ok (.if_icmp .ne 10, 3) := by decide +kernel
theorem dX3_wear_69 : decode cX3_wear 69 = .ok (.aload_n 1, 1) := by decide +kernel
theorem dX3_wear_70 : decode cX3_wear 70 = .ok (.iload 4, 2) := by decide +kernel
theorem dX3_wear_72 : decode cX3_wear 72 = .ok (.iconst 0, 1) := by decide +kernel
theorem dX3_wear_73 : decode cX3_wear 73 = .ok (.invokevirtual 96, 3) := by decide +kernel
theorem dX3_wear_39 : decode cX3_wear 39 = .ok (.aload_n 1, 1) := by decide +kernel
theorem dX3_wear_40 : decode cX3_wear 40 = .ok (.iload 4, 2) := by decide +kernel
theorem dX3_wear_42 : decode cX3_wear 42 = .ok (.iconst 4, 1) := by decide +kernel
theorem dX3_wear_43 : decode cX3_wear 43 = .ok (.invokevirtual 96, 3) := by decide +kernel
theorem dX3_wear_46 : decode cX3_wear 46 = .ok (.goto 30, 3) := by decide +kernel
theorem dX2_takeFrom_0 : decode cX2_takeFrom 0 = .ok (.aload_n 1, 1) := by decide +kernel
theorem dX2_takeFrom_1 : decode cX2_takeFrom 1 = .ok (.getfield 9, 3) := by decide +kernel
theorem dX2_takeFrom_4 : decode cX2_takeFrom 4 = .ok (.iconst 0, 1) := by decide +kernel
theorem dX2_takeFrom_5 : decode cX2_takeFrom 5 = .ok (.aload_n 0, 1) := by decide +kernel
theorem dX2_takeFrom_6 : decode cX2_takeFrom 6 = .ok (.getfield 9, 3) := by decide +kernel
theorem dX2_takeFrom_9 : decode cX2_takeFrom 9 = .ok (.iconst 0, 1) := by decide +kernel
theorem dX2_takeFrom_10 : decode cX2_takeFrom 10 = .ok (.bipush 51, 2) := by decide +kernel
theorem dX2_takeFrom_12 : decode cX2_takeFrom 12 = .ok (.invokestatic 15, 3) := by decide +kernel
theorem dX2_takeFrom_15 : decode cX2_takeFrom 15 = .ok (.aload_n 0, 1) := by decide +kernel
theorem dX2_takeFrom_16 : decode cX2_takeFrom 16 = .ok (.aload_n 1, 1) := by decide +kernel
theorem dX2_takeFrom_17 : decode cX2_takeFrom 17 = .ok (.getfield 21, 3) := by decide +kernel
theorem dX2_takeFrom_20 : decode cX2_takeFrom 20 = .ok (.putfield 21, 3) := by decide +kernel
theorem dX2_takeFrom_23 : decode cX2_takeFrom 23 = .ok (.return_, 1) := by decide +kernel
theorem dX2_add_0 : decode cX2_add 0 = .ok (.aload_n 0, 1) := by decide +kernel
theorem dX2_add_1 : decode cX2_add 1 = .ok (.getfield 21, 3) := by decide +kernel
theorem dX2_add_4 : decode cX2_add 4 = .ok (.bipush 51, 2) := by decide +kernel
theorem dX2_add_6 : decode cX2_add 6 = .ok (.if_icmp .ge 23, 3) := by decide +kernel
theorem dX2_add_29 : decode cX2_add 29 = .ok (.return_, 1) := by decide +kernel
theorem dX2_add_9 : decode cX2_add 9 = .ok (.aload_n 0, 1) := by decide +kernel
theorem dX2_add_10 : decode cX2_add 10 = .ok (.getfield 9, 3) := by decide +kernel
theorem dX2_add_13 : decode cX2_add 13 = .ok (.aload_n 0, 1) := by decide +kernel
theorem dX2_add_14 : decode cX2_add 14 = .ok (.getfield 21, 3) := by decide +kernel
theorem dX2_add_17 : decode cX2_add 17 = .ok (.iload_n 1, 1) := by decide +kernel
theorem dX2_add_18 : decode cX2_add 18 = .ok (.iastore, 1) := by decide +kernel
theorem dX2_add_19 : decode cX2_add 19 = .ok (.aload_n 0, 1) := by decide +kernel
theorem dX2_add_20 : decode cX2_add 20 = .ok (.dup, 1) := by decide +kernel
theorem dX2_add_21 : decode cX2_add 21 = .ok (.getfield 21, 3) := by decide +kernel
theorem dX2_add_24 : decode cX2_add 24 = .ok (.iconst 1, 1) := by decide +kernel
theorem dX2_add_25 : decode cX2_add 25 = .ok (.iadd, 1) := by decide +kernel
theorem dX2_add_26 : decode cX2_add 26 = .ok (.putfield 21, 3) := by decide +kernel
theorem dX2_takeTape_0 : decode cX2_takeTape 0 = .ok (.aload_n 0, 1) := by decide +kernel
theorem dX2_takeTape_1 : decode cX2_takeTape 1 = .ok (.iconst 0, 1) := by decide +kernel
theorem dX2_takeTape_2 : decode cX2_takeTape 2 = .ok (.putfield 21, 3) := by decide +kernel
theorem dX2_takeTape_5 : decode cX2_takeTape 5 = .ok (.iconst 0, 1) := by decide +kernel
theorem dX2_takeTape_6 : decode cX2_takeTape 6 = .ok (.istore_n 2, 1) := by decide +kernel
theorem dX2_takeTape_7 : decode cX2_takeTape 7 = .ok (.iload_n 2, 1) := by decide +kernel
theorem dX2_takeTape_8 : decode cX2_takeTape 8 = .ok (.aload_n 1, 1) := by decide +kernel
theorem dX2_takeTape_9 : decode cX2_takeTape 9 = .ok (.getfield 25, 3) := by decide +kernel
theorem dX2_takeTape_12 : decode cX2_takeTape 12 = .ok (.if_icmp .ge 35, 3) := by decide +kernel
theorem dX2_takeTape_47 : decode cX2_takeTape 47 = .ok (.return_, 1) := by decide +kernel
theorem dX2_takeTape_15 : decode cX2_takeTape 15 = .ok (.aload_n 1, 1) := by decide +kernel
theorem dX2_takeTape_16 : decode cX2_takeTape 16 = .ok (.iload_n 2, 1) := by decide +kernel
theorem dX2_takeTape_17 : decode cX2_takeTape 17 = .ok (.invokevirtual 28, 3) := by decide +kernel
theorem dX2_takeTape_20 : decode cX2_takeTape 20 = .ok (.istore_n 3, 1) := by decide +kernel
theorem dX2_takeTape_21 : decode cX2_takeTape 21 = .ok (.aload_n 0, 1) := by decide +kernel
theorem dX2_takeTape_22 : decode cX2_takeTape 22 = .ok (.iload_n 3, 1) := by decide +kernel
theorem dX2_takeTape_23 : decode cX2_takeTape 23 = .ok (.bipush 32, 2) := by decide +kernel
theorem dX2_takeTape_25 : decode cX2_takeTape 25 = .ok (.if_icmp .ne 7, 3) := by decide +kernel
theorem dX2_takeTape_32 : decode cX2_takeTape 32 = .ok (.iload_n 3, 1) := by decide +kernel
theorem dX2_takeTape_33 : decode cX2_takeTape 33 = .ok (.bipush 97, 2) := by decide +kernel
theorem dX2_takeTape_35 : decode cX2_takeTape 35 = .ok (.isub, 1) := by decide +kernel
theorem dX2_takeTape_36 : decode cX2_takeTape 36 = .ok (.iconst 1, 1) := by decide +kernel
theorem dX2_takeTape_37 : decode cX2_takeTape 37 = .ok (.iadd, 1) := by decide +kernel
theorem dX2_takeTape_38 : decode cX2_takeTape 38 = .ok (.invokevirtual 32, 3) := by decide +kernel
theorem dX2_takeTape_41 : decode cX2_takeTape 41 = .ok (.iinc 2 1, 3) := by decide +kernel
theorem dX2_takeTape_44 : decode cX2_takeTape 44 = .ok (.goto (-37), 3) := by decide +kernel
theorem dX2_takeTape_28 : decode cX2_takeTape 28 = .ok (.iconst 0, 1) := by decide +kernel
theorem dX2_takeTape_29 : decode cX2_takeTape 29 = .ok (.goto 9, 3) := by decide +kernel
theorem dX2_fiveAt_0 : decode cX2_fiveAt 0 = .ok (.iload_n 1, 1) := by decide +kernel
theorem dX2_fiveAt_1 : decode cX2_fiveAt 1 = .ok (.ifCond .lt 26, 3) := by decide +kernel
theorem dX2_fiveAt_27 : decode cX2_fiveAt 27 = .ok (.iconst (-1), 1) := by decide +kernel
theorem dX2_fiveAt_28 : decode cX2_fiveAt 28 = .ok (.ireturn, 1) := by decide +kernel
theorem dX2_fiveAt_4 : decode cX2_fiveAt 4 = .ok (.iload_n 1, 1) := by decide +kernel
theorem dX2_fiveAt_5 : decode cX2_fiveAt 5 = .ok (.aload_n 0, 1) := by decide +kernel
theorem dX2_fiveAt_6 : decode cX2_fiveAt 6 = .ok (.getfield 21, 3) := by decide +kernel
theorem dX2_fiveAt_9 : decode cX2_fiveAt 9 = .ok (.if_icmp .ge 18, 3) := by decide +kernel
theorem dX2_fiveAt_12 : decode cX2_fiveAt 12 = .ok (.iload_n 1, 1) := by decide +kernel
theorem dX2_fiveAt_13 : decode cX2_fiveAt 13 = .ok (.bipush 51, 2) := by decide +kernel
theorem dX2_fiveAt_15 : decode cX2_fiveAt 15 = .ok (.if_icmp .ge 12, 3) := by decide +kernel
theorem dX2_fiveAt_18 : decode cX2_fiveAt 18 = .ok (.aload_n 0, 1) := by decide +kernel
theorem dX2_fiveAt_19 : decode cX2_fiveAt 19 = .ok (.getfield 9, 3) := by decide +kernel
theorem dX2_fiveAt_22 : decode cX2_fiveAt 22 = .ok (.iload_n 1, 1) := by decide +kernel
theorem dX2_fiveAt_23 : decode cX2_fiveAt 23 = .ok (.iaload, 1) := by decide +kernel
theorem dX2_fiveAt_24 : decode cX2_fiveAt 24 = .ok (.goto 4, 3) := by decide +kernel
theorem dX2_byteOf_0 : decode cX2_byteOf 0 = .ok (.aload_n 0, 1) := by decide +kernel
theorem dX2_byteOf_1 : decode cX2_byteOf 1 = .ok (.iload_n 1, 1) := by decide +kernel
theorem dX2_byteOf_2 : decode cX2_byteOf 2 = .ok (.invokevirtual 36, 3) := by decide +kernel
theorem dX2_byteOf_5 : decode cX2_byteOf 5 = .ok (.istore_n 2, 1) := by decide +kernel
theorem dX2_byteOf_6 : decode cX2_byteOf 6 = .ok (.iload_n 2, 1) := by decide +kernel
theorem dX2_byteOf_7 : decode cX2_byteOf 7 = .ok (.iconst (-1), 1) := by decide +kernel
theorem dX2_byteOf_8 : decode cX2_byteOf 8 = .ok (.if_icmp .ne 5, 3) := by decide +kernel
theorem dX2_byteOf_13 : decode cX2_byteOf 13 = .ok (.iload_n 2, 1) := by decide +kernel
theorem dX2_byteOf_14 : decode cX2_byteOf 14 = .ok (.bipush 32, 2) := by decide +kernel
theorem dX2_byteOf_16 : decode cX2_byteOf 16 = .ok (.if_icmp .ne 6, 3) := by decide +kernel
theorem dX2_byteOf_22 : decode cX2_byteOf 22 = .ok (.iload_n 2, 1) := by decide +kernel
theorem dX2_byteOf_23 : decode cX2_byteOf 23 = .ok (.ifCond .ne 8, 3) := by decide +kernel
theorem dX2_byteOf_31 : decode cX2_byteOf 31 = .ok (.bipush 97, 2) := by decide +kernel
theorem dX2_byteOf_33 : decode cX2_byteOf 33 = .ok (.iload_n 2, 1) := by decide +kernel
theorem dX2_byteOf_34 : decode cX2_byteOf 34 = .ok (.iadd, 1) := by decide +kernel
theorem dX2_byteOf_35 : decode cX2_byteOf 35 = .ok (.iconst 1, 1) := by decide +kernel
theorem dX2_byteOf_36 : decode cX2_byteOf 36 = .ok (.isub, 1) := by decide +kernel
theorem dX2_byteOf_37 : decode cX2_byteOf 37 = .ok (.ireturn, 1) := by decide +kernel
theorem dX2_byteOf_26 : decode cX2_byteOf 26 = .ok (.bipush 32, 2) := by decide +kernel
theorem dX2_byteOf_28 : decode cX2_byteOf 28 = .ok (.goto 9, 3) := by decide +kernel
theorem dX2_byteOf_19 : decode cX2_byteOf 19 = .ok (.bipush 63, 2) := by decide +kernel
theorem dX2_byteOf_21 : decode cX2_byteOf 21 = .ok (.ireturn, 1) := by decide +kernel
theorem dX2_byteOf_11 : decode cX2_byteOf 11 = .ok (.iconst (-1), 1) := by decide +kernel
theorem dX2_byteOf_12 : decode cX2_byteOf 12 = .ok (.ireturn, 1) := by decide +kernel
theorem dX2_isSure_0 : decode cX2_isSure 0 = .ok (.iconst 0, 1) := by decide +kernel
theorem dX2_isSure_1 : decode cX2_isSure 1 = .ok (.istore_n 1, 1) := by decide +kernel
theorem dX2_isSure_2 : decode cX2_isSure 2 = .ok (.iload_n 1, 1) := by decide +kernel
theorem dX2_isSure_3 : decode cX2_isSure 3 = .ok (.aload_n 0, 1) := by decide +kernel
theorem dX2_isSure_4 : decode cX2_isSure 4 = .ok (.getfield 21, 3) := by decide +kernel
theorem dX2_isSure_7 : decode cX2_isSure 7 = .ok (.if_icmp .ge 21, 3) := by decide +kernel
theorem dX2_isSure_28 : decode cX2_isSure 28 = .ok (.aload_n 0, 1) := by decide +kernel
theorem dX2_isSure_29 : decode cX2_isSure 29 = .ok (.getfield 21, 3) := by decide +kernel
theorem dX2_isSure_32 : decode cX2_isSure 32 = .ok (.ifCond .le 7, 3) := by decide +kernel
theorem dX2_isSure_39 : decode cX2_isSure 39 = .ok (.iconst 0, 1) := by decide +kernel
theorem dX2_isSure_40 : decode cX2_isSure 40 = .ok (.ireturn, 1) := by decide +kernel
theorem dX2_isSure_35 : decode cX2_isSure 35 = .ok (.iconst 1, 1) := by decide +kernel
theorem dX2_isSure_36 : decode cX2_isSure 36 = .ok (.goto 4, 3) := by decide +kernel
theorem dX2_isSure_10 : decode cX2_isSure 10 = .ok (.aload_n 0, 1) := by decide +kernel
theorem dX2_isSure_11 : decode cX2_isSure 11 = .ok (.iload_n 1, 1) := by decide +kernel
theorem dX2_isSure_12 : decode cX2_isSure 12 = .ok (.invokevirtual 36, 3) := by decide +kernel
theorem dX2_isSure_15 : decode cX2_isSure 15 = .ok (.bipush 32, 2) := by decide +kernel
theorem dX2_isSure_17 : decode cX2_isSure 17 = .ok (.if_icmp .ne 5, 3) := by decide +kernel
theorem dX2_isSure_22 : decode cX2_isSure 22 = .ok (.iinc 1 1, 3) := by decide +kernel
theorem dX2_isSure_25 : decode cX2_isSure 25 = .ok (.goto (-23), 3) := by decide +kernel
theorem dX2_isSure_20 : decode cX2_isSure 20 = .ok (.iconst 0, 1) := by decide +kernel
theorem dX2_isSure_21 : decode cX2_isSure 21 = .ok (.ireturn, 1) := by decide +kernel
theorem dX2_isAs_0 : decode cX2_isAs 0 = .ok (.aload_n 0, 1) := by decide +kernel
theorem dX2_isAs_1 : decode cX2_isAs 1 = .ok (.getfield 21, 3) := by decide +kernel
theorem dX2_isAs_4 : decode cX2_isAs 4 = .ok (.aload_n 1, 1) := by decide +kernel
theorem dX2_isAs_5 : decode cX2_isAs 5 = .ok (.getfield 21, 3) := by decide +kernel
theorem dX2_isAs_8 : decode cX2_isAs 8 = .ok (.if_icmp .eq 5, 3) := by decide +kernel
theorem dX2_isAs_13 : decode cX2_isAs 13 = .ok (.iconst 0, 1) := by decide +kernel
theorem dX2_isAs_14 : decode cX2_isAs 14 = .ok (.istore_n 2, 1) := by decide +kernel
theorem dX2_isAs_15 : decode cX2_isAs 15 = .ok (.iload_n 2, 1) := by decide +kernel
theorem dX2_isAs_16 : decode cX2_isAs 16 = .ok (.aload_n 0, 1) := by decide +kernel
theorem dX2_isAs_17 : decode cX2_isAs 17 = .ok (.getfield 21, 3) := by decide +kernel
theorem dX2_isAs_20 : decode cX2_isAs 20 = .ok (.if_icmp .ge 24, 3) := by decide +kernel
theorem dX2_isAs_44 : decode cX2_isAs 44 = .ok (.iconst 1, 1) := by decide +kernel
theorem dX2_isAs_45 : decode cX2_isAs 45 = .ok (.ireturn, 1) := by decide +kernel
theorem dX2_isAs_23 : decode cX2_isAs 23 = .ok (.aload_n 0, 1) := by decide +kernel
theorem dX2_isAs_24 : decode cX2_isAs 24 = .ok (.iload_n 2, 1) := by decide +kernel
theorem dX2_isAs_25 : decode cX2_isAs 25 = .ok (.invokevirtual 36, 3) := by decide +kernel
theorem dX2_isAs_28 : decode cX2_isAs 28 = .ok (.aload_n 1, 1) := by decide +kernel
theorem dX2_isAs_29 : decode cX2_isAs 29 = .ok (.iload_n 2, 1) := by decide +kernel
theorem dX2_isAs_30 : decode cX2_isAs 30 = .ok (.invokevirtual 36, 3) := by decide +kernel
theorem dX2_isAs_33 : decode cX2_isAs 33 = .ok (.if_icmp .eq 5, 3) := by decide +kernel
theorem dX2_isAs_38 : decode cX2_isAs 38 = .ok (.iinc 2 1, 3) := by decide +kernel
theorem dX2_isAs_41 : decode cX2_isAs 41 = .ok (.goto (-26), 3) := by decide +kernel
theorem dX2_isAs_36 : decode cX2_isAs 36 = .ok (.iconst 0, 1) := by decide +kernel
theorem dX2_isAs_37 : decode cX2_isAs 37 = .ok (.ireturn, 1) := by decide +kernel
theorem dX2_isAs_11 : decode cX2_isAs 11 = .ok (.iconst 0, 1) := by decide +kernel
theorem dX2_isAs_12 : decode cX2_isAs 12 = .ok (.ireturn, 1) := by decide +kernel
theorem dX8_placeAt_0 : decode cX8_placeAt 0 = .ok (.iload_n 1, 1) := by decide +kernel
theorem dX8_placeAt_1 : decode cX8_placeAt 1 = .ok (.ifCond .lt 27, 3) := by decide +kernel
theorem dX8_placeAt_28 : decode cX8_placeAt 28 = .ok (.iconst (-1), 1) := by decide +kernel
theorem dX8_placeAt_29 : decode cX8_placeAt 29 = .ok (.ireturn, 1) := by decide +kernel
theorem dX8_placeAt_4 : decode cX8_placeAt 4 = .ok (.iload_n 1, 1) := by decide +kernel
theorem dX8_placeAt_5 : decode cX8_placeAt 5 = .ok (.aload_n 0, 1) := by decide +kernel
theorem dX8_placeAt_6 : decode cX8_placeAt 6 = .ok (.getfield 22, 3) := by decide +kernel
theorem dX8_placeAt_9 : decode cX8_placeAt 9 = .ok (.if_icmp .ge 19, 3) := by decide +kernel
theorem dX8_placeAt_12 : decode cX8_placeAt 12 = .ok (.iload_n 1, 1) := by decide +kernel
theorem dX8_placeAt_13 : decode cX8_placeAt 13 = .ok (.sipush 256, 3) := by decide +kernel
theorem dX8_placeAt_16 : decode cX8_placeAt 16 = .ok (.if_icmp .ge 12, 3) := by decide +kernel
theorem dX8_placeAt_19 : decode cX8_placeAt 19 = .ok (.aload_n 0, 1) := by decide +kernel
theorem dX8_placeAt_20 : decode cX8_placeAt 20 = .ok (.getfield 9, 3) := by decide +kernel
theorem dX8_placeAt_23 : decode cX8_placeAt 23 = .ok (.iload_n 1, 1) := by decide +kernel
theorem dX8_placeAt_24 : decode cX8_placeAt 24 = .ok (.iaload, 1) := by decide +kernel
theorem dX8_placeAt_25 : decode cX8_placeAt 25 = .ok (.goto 4, 3) := by decide +kernel
theorem dX8_groupTells_0 : decode cX8_groupTells 0 = .ok (.iconst 0, 1) := by decide +kernel
theorem dX8_groupTells_1 : decode cX8_groupTells 1 = .ok (.istore_n 3, 1) := by decide +kernel
theorem dX8_groupTells_2 : decode cX8_groupTells 2 = .ok (.iconst 0, 1) := by decide +kernel
theorem dX8_groupTells_3 : decode cX8_groupTells 3 = .ok (.istore 4, 2) := by decide +kernel
theorem dX8_groupTells_5 : decode cX8_groupTells 5 = .ok (.iload 4, 2) := by decide +kernel
theorem dX8_groupTells_7 : decode cX8_groupTells 7 = .ok (.aload_n 0, 1) := by decide +kernel
theorem dX8_groupTells_8 : decode cX8_groupTells 8 = .ok (.getfield 15, 3) := by decide +kernel
theorem dX8_groupTells_11 : decode cX8_groupTells 11 = .ok (.if_icmp .ge 44, 3) := by decide +kernel
theorem dX8_groupTells_55 : decode cX8_groupTells 55 = .ok (.iload_n 3, 1) := by decide +kernel
theorem dX8_groupTells_56 : decode cX8_groupTells 56 = .ok (.iconst 2, 1) := by decide +kernel
theorem dX8_groupTells_57 : decode cX8_groupTells 57 = .ok (.irem, 1) := by decide +kernel
theorem dX8_groupTells_58 : decode cX8_groupTells 58 = .ok (.ireturn, 1) := by decide +kernel
theorem dX8_groupTells_14 : decode cX8_groupTells 14 = .ok (.aload_n 1, 1) := by decide +kernel
theorem dX8_groupTells_15 : decode cX8_groupTells 15 = .ok (.aload_n 0, 1) := by decide +kernel
theorem dX8_groupTells_16 : decode cX8_groupTells 16 = .ok (.iload_n 2, 1) := by decide +kernel
theorem dX8_groupTells_17 : decode cX8_groupTells 17 = .ok (.aload_n 0, 1) := by decide +kernel
theorem dX8_groupTells_18 : decode cX8_groupTells 18 = .ok (.getfield 15, 3) := by decide +kernel
theorem dX8_groupTells_21 : decode cX8_groupTells 21 = .ok (.imul, 1) := by decide +kernel
theorem dX8_groupTells_22 : decode cX8_groupTells 22 = .ok (.iload 4, 2) := by decide +kernel
theorem dX8_groupTells_24 : decode cX8_groupTells 24 = .ok (.iadd, 1) := by decide +kernel
theorem dX8_groupTells_25 : decode cX8_groupTells 25 = .ok (.invokevirtual 71, 3) := by decide +kernel
theorem dX8_groupTells_28 : decode cX8_groupTells 28 = .ok (.invokevirtual 74, 3) := by decide +kernel
theorem dX8_groupTells_31 : decode cX8_groupTells 31 = .ok (.istore 5, 2) := by decide +kernel
theorem dX8_groupTells_33 : decode cX8_groupTells 33 = .ok (.iload 5, 2) := by decide +kernel
theorem dX8_groupTells_35 : decode cX8_groupTells 35 = .ok (.iconst 4, 1) := by decide +kernel
theorem dX8_groupTells_36 : decode cX8_groupTells 36 = .ok (.if_icmp .ne 5, 3) := by decide +kernel
theorem dX8_groupTells_41 : decode cX8_groupTells 41 = .ok (.iload 5, 2) := by decide +kernel
theorem dX8_groupTells_43 : decode cX8_groupTells 43 = .ok (.ifCond .eq 6, 3) := by decide +kernel
theorem dX8_groupTells_49 : decode cX8_groupTells 49 = .ok (.iinc 4 1, 3) := by decide +kernel
theorem dX8_groupTells_52 : decode cX8_groupTells 52 = .ok (.goto (-47), 3) := by decide +kernel
theorem dX8_groupTells_46 : decode cX8_groupTells 46 = .ok (.iinc 3 1, 3) := by decide +kernel
theorem dX8_groupTells_39 : decode cX8_groupTells 39 = .ok (.iconst 2, 1) := by decide +kernel
theorem dX8_groupTells_40 : decode cX8_groupTells 40 = .ok (.ireturn, 1) := by decide +kernel
theorem dX8_bitTells_0 : decode cX8_bitTells 0 = .ok (.iconst 0, 1) := by decide +kernel
theorem dX8_bitTells_1 : decode cX8_bitTells 1 = .ok (.istore_n 3, 1) := by decide +kernel
theorem dX8_bitTells_2 : decode cX8_bitTells 2 = .ok (.iconst 0, 1) := by decide +kernel
theorem dX8_bitTells_3 : decode cX8_bitTells 3 = .ok (.istore 4, 2) := by decide +kernel
theorem dX8_bitTells_5 : decode cX8_bitTells 5 = .ok (.iload 4, 2) := by decide +kernel
theorem dX8_bitTells_7 : decode cX8_bitTells 7 = .ok (.aload_n 0, 1) := by decide +kernel
theorem dX8_bitTells_8 : decode cX8_bitTells 8 = .ok (.getfield 19, 3) := by decide +kernel
theorem dX8_bitTells_11 : decode cX8_bitTells 11 = .ok (.if_icmp .ge 45, 3) := by decide +kernel
theorem dX8_bitTells_56 : decode cX8_bitTells 56 = .ok (.iload_n 3, 1) := by decide +kernel
theorem dX8_bitTells_57 : decode cX8_bitTells 57 = .ok (.ifCond .ne 5, 3) := by decide +kernel
theorem dX8_bitTells_62 : decode cX8_bitTells 62 = .ok (.iload_n 3, 1) := by decide +kernel
theorem dX8_bitTells_63 : decode cX8_bitTells 63 = .ok (.ifCond .le 7, 3) := by decide +kernel
theorem dX8_bitTells_70 : decode cX8_bitTells 70 = .ok (.iconst 0, 1) := by decide +kernel
theorem dX8_bitTells_71 : decode cX8_bitTells 71 = .ok (.ireturn, 1) := by decide +kernel
theorem dX8_bitTells_66 : decode cX8_bitTells 66 = .ok (.iconst 1, 1) := by decide +kernel
theorem dX8_bitTells_67 : decode cX8_bitTells 67 = .ok (.goto 4, 3) := by decide +kernel
theorem dX8_bitTells_60 : decode cX8_bitTells 60 = .ok (.iconst 2, 1) := by decide +kernel
theorem dX8_bitTells_61 : decode cX8_bitTells 61 = .ok (.ireturn, 1) := by decide +kernel
theorem dX8_bitTells_14 : decode cX8_bitTells 14 = .ok (.aload_n 0, 1) := by decide +kernel
theorem dX8_bitTells_15 : decode cX8_bitTells 15 = .ok (.aload_n 1, 1) := by decide +kernel
theorem dX8_bitTells_16 : decode cX8_bitTells 16 = .ok (.iload_n 2, 1) := by decide +kernel
theorem dX8_bitTells_17 : decode cX8_bitTells 17 = .ok (.aload_n 0, 1) := by decide +kernel
theorem dX8_bitTells_18 : decode cX8_bitTells 18 = .ok (.getfield 19, 3) := by decide +kernel
theorem dX8_bitTells_21 : decode cX8_bitTells 21 = .ok (.imul, 1) := by decide +kernel
theorem dX8_bitTells_22 : decode cX8_bitTells 22 = .ok (.iload 4, 2) := by decide +kernel
theorem dX8_bitTells_24 : decode cX8_bitTells 24 = .ok (.iadd, 1) := by decide +kernel
theorem dX8_bitTells_25 : decode cX8_bitTells 25 = .ok (.invokevirtual 79, 3) := by decide +kernel
theorem dX8_bitTells_28 : decode cX8_bitTells 28 = .ok (.istore 5, 2) := by decide +kernel
theorem dX8_bitTells_30 : decode cX8_bitTells 30 = .ok (.iload 5, 2) := by decide +kernel
theorem dX8_bitTells_32 : decode cX8_bitTells 32 = .ok (.iconst 2, 1) := by decide +kernel
theorem dX8_bitTells_33 : decode cX8_bitTells 33 = .ok (.if_icmp .eq 17, 3) := by decide +kernel
theorem dX8_bitTells_50 : decode cX8_bitTells 50 = .ok (.iinc 4 1, 3) := by decide +kernel
theorem dX8_bitTells_53 : decode cX8_bitTells 53 = .ok (.goto (-48), 3) := by decide +kernel
theorem dX8_bitTells_36 : decode cX8_bitTells 36 = .ok (.iload_n 3, 1) := by decide +kernel
theorem dX8_bitTells_37 : decode cX8_bitTells 37 = .ok (.iload 5, 2) := by decide +kernel
theorem dX8_bitTells_39 : decode cX8_bitTells 39 = .ok (.iconst 1, 1) := by decide +kernel
theorem dX8_bitTells_40 : decode cX8_bitTells 40 = .ok (.if_icmp .ne 7, 3) := by decide +kernel
theorem dX8_bitTells_47 : decode cX8_bitTells 47 = .ok (.iconst (-1), 1) := by decide +kernel
theorem dX8_bitTells_48 : decode cX8_bitTells 48 = .ok (.iadd, 1) := by decide +kernel
theorem dX8_bitTells_49 : decode cX8_bitTells 49 = .ok (.istore_n 3, 1) := by decide +kernel
theorem dX8_bitTells_43 : decode cX8_bitTells 43 = .ok (.iconst 1, 1) := by decide +kernel
theorem dX8_bitTells_44 : decode cX8_bitTells 44 = .ok (.goto 4, 3) := by decide +kernel
theorem dX8_fiveTells_0 : decode cX8_fiveTells 0 = .ok (.iconst 0, 1) := by decide +kernel
theorem dX8_fiveTells_1 : decode cX8_fiveTells 1 = .ok (.istore_n 3, 1) := by decide +kernel
theorem dX8_fiveTells_2 : decode cX8_fiveTells 2 = .ok (.iconst 0, 1) := by decide +kernel
theorem dX8_fiveTells_3 : decode cX8_fiveTells 3 = .ok (.istore 4, 2) := by decide +kernel
theorem dX8_fiveTells_5 : decode cX8_fiveTells 5 = .ok (.iload 4, 2) := by decide +kernel
theorem dX8_fiveTells_7 : decode cX8_fiveTells 7 = .ok (.iconst 5, 1) := by decide +kernel
theorem dX8_fiveTells_8 : decode cX8_fiveTells 8 = .ok (.if_icmp .ge 38, 3) := by decide +kernel
theorem dX8_fiveTells_46 : decode cX8_fiveTells 46 = .ok (.iload_n 3, 1) := by decide +kernel
theorem dX8_fiveTells_47 : decode cX8_fiveTells 47 = .ok (.ireturn, 1) := by decide +kernel
theorem dX8_fiveTells_11 : decode cX8_fiveTells 11 = .ok (.aload_n 0, 1) := by decide +kernel
theorem dX8_fiveTells_12 : decode cX8_fiveTells 12 = .ok (.aload_n 1, 1) := by decide +kernel
theorem dX8_fiveTells_13 : decode cX8_fiveTells 13 = .ok (.iload_n 2, 1) := by decide +kernel
theorem dX8_fiveTells_14 : decode cX8_fiveTells 14 = .ok (.iconst 5, 1) := by decide +kernel
theorem dX8_fiveTells_15 : decode cX8_fiveTells 15 = .ok (.imul, 1) := by decide +kernel
theorem dX8_fiveTells_16 : decode cX8_fiveTells 16 = .ok (.iload 4, 2) := by decide +kernel
theorem dX8_fiveTells_18 : decode cX8_fiveTells 18 = .ok (.iadd, 1) := by decide +kernel
theorem dX8_fiveTells_19 : decode cX8_fiveTells 19 = .ok (.invokevirtual 83, 3) := by decide +kernel
theorem dX8_fiveTells_22 : decode cX8_fiveTells 22 = .ok (.istore 5, 2) := by decide +kernel
theorem dX8_fiveTells_24 : decode cX8_fiveTells 24 = .ok (.iload 5, 2) := by decide +kernel
theorem dX8_fiveTells_26 : decode cX8_fiveTells 26 = .ok (.iconst 2, 1) := by decide +kernel
theorem dX8_fiveTells_27 : decode cX8_fiveTells 27 = .ok (.if_icmp .ne 6, 3) := by decide +kernel
theorem dX8_fiveTells_33 : decode cX8_fiveTells 33 = .ok (.iconst 2, 1) := by decide +kernel
theorem dX8_fiveTells_34 : decode cX8_fiveTells 34 = .ok (.iload_n 3, 1) := by decide +kernel
theorem dX8_fiveTells_35 : decode cX8_fiveTells 35 = .ok (.imul, 1) := by decide +kernel
theorem dX8_fiveTells_36 : decode cX8_fiveTells 36 = .ok (.iload 5, 2) := by decide +kernel
theorem dX8_fiveTells_38 : decode cX8_fiveTells 38 = .ok (.iadd, 1) := by decide +kernel
theorem dX8_fiveTells_39 : decode cX8_fiveTells 39 = .ok (.istore_n 3, 1) := by decide +kernel
theorem dX8_fiveTells_40 : decode cX8_fiveTells 40 = .ok (.iinc 4 1, 3) := by decide +kernel
theorem dX8_fiveTells_43 : decode cX8_fiveTells 43 = .ok (.goto (-38), 3) := by decide +kernel
theorem dX8_fiveTells_30 : decode cX8_fiveTells 30 = .ok (.bipush 32, 2) := by decide +kernel
theorem dX8_fiveTells_32 : decode cX8_fiveTells 32 = .ok (.ireturn, 1) := by decide +kernel
theorem dX2_hear_0 : decode cX2_hear 0 = .ok (.aload_n 0, 1) := by decide +kernel
theorem dX2_hear_1 : decode cX2_hear 1 = .ok (.iconst 0, 1) := by decide +kernel
theorem dX2_hear_2 : decode cX2_hear 2 = .ok (.putfield 21, 3) := by decide +kernel
theorem dX2_hear_5 : decode cX2_hear 5 = .ok (.iconst 0, 1) := by decide +kernel
theorem dX2_hear_6 : decode cX2_hear 6 = .ok (.istore_n 3, 1) := by decide +kernel
theorem dX2_hear_7 : decode cX2_hear 7 = .ok (.iload_n 3, 1) := by decide +kernel
theorem dX2_hear_8 : decode cX2_hear 8 = .ok (.aload_n 2, 1) := by decide +kernel
theorem dX2_hear_9 : decode cX2_hear 9 = .ok (.getfield 39, 3) := by decide +kernel
theorem dX2_hear_12 : decode cX2_hear 12 = .ok (.iconst 5, 1) := by decide +kernel
theorem dX2_hear_13 : decode cX2_hear 13 = .ok (.idiv, 1) := by decide +kernel
theorem dX2_hear_14 : decode cX2_hear 14 = .ok (.if_icmp .ge 59, 3) := by decide +kernel
theorem dX2_hear_73 : decode cX2_hear 73 = .ok (.iconst 0, 1) := by decide +kernel
theorem dX2_hear_74 : decode cX2_hear 74 = .ok (.ireturn, 1) := by decide +kernel
theorem dX2_hear_17 : decode cX2_hear 17 = .ok (.aload_n 2, 1) := by decide +kernel
theorem dX2_hear_18 : decode cX2_hear 18 = .ok (.aload_n 1, 1) := by decide +kernel
theorem dX2_hear_19 : decode cX2_hear 19 = .ok (.iload_n 3, 1) := by decide +kernel
theorem dX2_hear_20 : decode cX2_hear 20 = .ok (.invokevirtual 44, 3) := by decide +kernel
theorem dX2_hear_23 : decode cX2_hear 23 = .ok (.istore 4, 2) := by decide +kernel
theorem dX2_hear_25 : decode cX2_hear 25 = .ok (.iload 4, 2) := by decide +kernel
theorem dX2_hear_27 : decode cX2_hear 27 = .ok (.bipush 31, 2) := by decide +kernel
theorem dX2_hear_29 : decode cX2_hear 29 = .ok (.if_icmp .ne 16, 3) := by decide +kernel
theorem dX2_hear_45 : decode cX2_hear 45 = .ok (.iload 4, 2) := by decide +kernel
theorem dX2_hear_47 : decode cX2_hear 47 = .ok (.bipush 26, 2) := by decide +kernel
theorem dX2_hear_49 : decode cX2_hear 49 = .ok (.if_icmp .le 12, 3) := by decide +kernel
theorem dX2_hear_61 : decode cX2_hear 61 = .ok (.aload_n 0, 1) := by decide +kernel
theorem dX2_hear_62 : decode cX2_hear 62 = .ok (.iload 4, 2) := by decide +kernel
theorem dX2_hear_64 : decode cX2_hear 64 = .ok (.invokevirtual 32, 3) := by decide +kernel
theorem dX2_hear_67 : decode cX2_hear 67 = .ok (.iinc 3 1, 3) := by decide +kernel
theorem dX2_hear_70 : decode cX2_hear 70 = .ok (.goto (-63), 3) := by decide +kernel
theorem dX2_hear_52 : decode cX2_hear 52 = .ok (.iload 4, 2) := by decide +kernel
theorem dX2_hear_54 : decode cX2_hear 54 = .ok (.bipush 32, 2) := by decide +kernel
theorem dX2_hear_56 : decode cX2_hear 56 = .ok (.if_icmp .eq 5, 3) := by decide +kernel
theorem dX2_hear_59 : decode cX2_hear 59 = .ok (.iconst 0, 1) := by decide +kernel
theorem dX2_hear_60 : decode cX2_hear 60 = .ok (.ireturn, 1) := by decide +kernel
theorem dX2_hear_32 : decode cX2_hear 32 = .ok (.aload_n 0, 1) := by decide +kernel
theorem dX2_hear_33 : decode cX2_hear 33 = .ok (.getfield 21, 3) := by decide +kernel
theorem dX2_hear_36 : decode cX2_hear 36 = .ok (.ifCond .le 7, 3) := by decide +kernel
theorem dX2_hear_43 : decode cX2_hear 43 = .ok (.iconst 0, 1) := by decide +kernel
theorem dX2_hear_44 : decode cX2_hear 44 = .ok (.ireturn, 1) := by decide +kernel
theorem dX2_hear_39 : decode cX2_hear 39 = .ok (.iconst 1, 1) := by decide +kernel
theorem dX2_hear_40 : decode cX2_hear 40 = .ok (.goto 4, 3) := by decide +kernel
theorem dX8_lastPlaceLeft_0 : decode cX8_lastPlaceLeft 0 = .ok (.aload_n 0, 1) := by decide +kernel
theorem dX8_lastPlaceLeft_1 : decode cX8_lastPlaceLeft 1 = .ok (.getfield 15, 3) := by decide +kernel
theorem dX8_lastPlaceLeft_4 : decode cX8_lastPlaceLeft 4 = .ok (.iconst 1, 1) := by decide +kernel
theorem dX8_lastPlaceLeft_5 : decode cX8_lastPlaceLeft 5 = .ok (.isub, 1) := by decide +kernel
theorem dX8_lastPlaceLeft_6 : decode cX8_lastPlaceLeft 6 = .ok (.istore_n 3, 1) := by decide +kernel
theorem dX8_lastPlaceLeft_7 : decode cX8_lastPlaceLeft 7 = .ok (.iload_n 3, 1) := by decide +kernel
theorem dX8_lastPlaceLeft_8 : decode cX8_lastPlaceLeft 8 = .ok (.ifCond .lt 36, 3) := by decide +kernel
theorem dX8_lastPlaceLeft_44 : decode cX8_lastPlaceLeft 44 = .ok (.iconst (-1), 1) := by decide +kernel
theorem dX8_lastPlaceLeft_45 : decode cX8_lastPlaceLeft 45 = .ok (.ireturn, 1) := by decide +kernel
theorem dX8_lastPlaceLeft_11 : decode cX8_lastPlaceLeft 11 = .ok (.aload_n 0, 1) := by decide +kernel
theorem dX8_lastPlaceLeft_12 : decode cX8_lastPlaceLeft 12 = .ok (.iload_n 2, 1) := by decide +kernel
theorem dX8_lastPlaceLeft_13 : decode cX8_lastPlaceLeft 13 = .ok (.aload_n 0, 1) := by decide +kernel
theorem dX8_lastPlaceLeft_14 : decode cX8_lastPlaceLeft 14 = .ok (.getfield 15, 3) := by decide +kernel
theorem dX8_lastPlaceLeft_17 : decode cX8_lastPlaceLeft 17 = .ok (.imul, 1) := by decide +kernel
theorem dX8_lastPlaceLeft_18 : decode cX8_lastPlaceLeft 18 = .ok (.iload_n 3, 1) := by decide +kernel
theorem dX8_lastPlaceLeft_19 : decode cX8_lastPlaceLeft 19 = .ok (.iadd, 1) := by decide +kernel
theorem dX8_lastPlaceLeft_20 : decode cX8_lastPlaceLeft 20 = .ok (.invokevirtual 71, 3) := by decide +kernel
theorem dX8_lastPlaceLeft_23 : decode cX8_lastPlaceLeft 23 = .ok (.istore 4, 2) := by decide +kernel
theorem dX8_lastPlaceLeft_25 : decode cX8_lastPlaceLeft 25 = .ok (.aload_n 1, 1) := by decide +kernel
theorem dX8_lastPlaceLeft_26 : decode cX8_lastPlaceLeft 26 = .ok (.iload 4, 2) := by decide +kernel
theorem dX8_lastPlaceLeft_28 : decode cX8_lastPlaceLeft 28 = .ok (.invokevirtual 74, 3) := by decide +kernel
theorem dX8_lastPlaceLeft_31 : decode cX8_lastPlaceLeft 31 = .ok (.iconst 4, 1) := by decide +kernel
theorem dX8_lastPlaceLeft_32 : decode cX8_lastPlaceLeft 32 = .ok (.if_icmp .eq 6, 3) := by decide +kernel
theorem dX8_lastPlaceLeft_38 : decode cX8_lastPlaceLeft 38 = .ok (.iinc 3 (-1), 3) := by decide +kernel
theorem dX8_lastPlaceLeft_41 : decode cX8_lastPlaceLeft 41 = .ok (.goto (-34), 3) := by decide +kernel
theorem dX8_lastPlaceLeft_35 : decode cX8_lastPlaceLeft 35 = .ok (.iload 4, 2) := by decide +kernel
theorem dX8_lastPlaceLeft_37 : decode cX8_lastPlaceLeft 37 = .ok (.ireturn, 1) := by decide +kernel
theorem dX8_setBit_0 : decode cX8_setBit 0 = .ok (.iconst 0, 1) := by decide +kernel
theorem dX8_setBit_1 : decode cX8_setBit 1 = .ok (.istore 5, 2) := by decide +kernel
theorem dX8_setBit_3 : decode cX8_setBit 3 = .ok (.iconst 0, 1) := by decide +kernel
theorem dX8_setBit_4 : decode cX8_setBit 4 = .ok (.istore 6, 2) := by decide +kernel
theorem dX8_setBit_6 : decode cX8_setBit 6 = .ok (.iload 6, 2) := by decide +kernel
theorem dX8_setBit_8 : decode cX8_setBit 8 = .ok (.aload_n 0, 1) := by decide +kernel
theorem dX8_setBit_9 : decode cX8_setBit 9 = .ok (.getfield 19, 3) := by decide +kernel
theorem dX8_setBit_12 : decode cX8_setBit 12 = .ok (.if_icmp .ge 68, 3) := by decide +kernel
theorem dX8_setBit_80 : decode cX8_setBit 80 = .ok (.iload 5, 2) := by decide +kernel
theorem dX8_setBit_82 : decode cX8_setBit 82 = .ok (.ireturn, 1) := by decide +kernel
theorem dX8_setBit_15 : decode cX8_setBit 15 = .ok (.iload_n 3, 1) := by decide +kernel
theorem dX8_setBit_16 : decode cX8_setBit 16 = .ok (.aload_n 0, 1) := by decide +kernel
theorem dX8_setBit_17 : decode cX8_setBit 17 = .ok (.getfield 19, 3) := by decide +kernel
theorem dX8_setBit_20 : decode cX8_setBit 20 = .ok (.imul, 1) := by decide +kernel
theorem dX8_setBit_21 : decode cX8_setBit 21 = .ok (.iload 6, 2) := by decide +kernel
theorem dX8_setBit_23 : decode cX8_setBit 23 = .ok (.iadd, 1) := by decide +kernel
theorem dX8_setBit_24 : decode cX8_setBit 24 = .ok (.istore 7, 2) := by decide +kernel
theorem dX8_setBit_26 : decode cX8_setBit 26 = .ok (.aload_n 0, 1) := by decide +kernel
theorem dX8_setBit_27 : decode cX8_setBit 27 = .ok (.aload_n 1, 1) := by decide +kernel
theorem dX8_setBit_28 : decode cX8_setBit 28 = .ok (.iload 7, 2) := by decide +kernel
theorem dX8_setBit_30 : decode cX8_setBit 30 = .ok (.invokevirtual 79, 3) := by decide +kernel
theorem dX8_setBit_33 : decode cX8_setBit 33 = .ok (.iload 4, 2) := by decide +kernel
theorem dX8_setBit_35 : decode cX8_setBit 35 = .ok (.if_icmp .eq 39, 3) := by decide +kernel
theorem dX8_setBit_74 : decode cX8_setBit 74 = .ok (.iinc 6 1, 3) := by decide +kernel
theorem dX8_setBit_77 : decode cX8_setBit 77 = .ok (.goto (-71), 3) := by decide +kernel
theorem dX8_setBit_38 : decode cX8_setBit 38 = .ok (.aload_n 0, 1) := by decide +kernel
theorem dX8_setBit_39 : decode cX8_setBit 39 = .ok (.aload_n 1, 1) := by decide +kernel
theorem dX8_setBit_40 : decode cX8_setBit 40 = .ok (.iload 7, 2) := by decide +kernel
theorem dX8_setBit_42 : decode cX8_setBit 42 = .ok (.invokevirtual 86, 3) := by decide +kernel
theorem dX8_setBit_45 : decode cX8_setBit 45 = .ok (.istore 8, 2) := by decide +kernel
theorem dX8_setBit_47 : decode cX8_setBit 47 = .ok (.iload 8, 2) := by decide +kernel
theorem dX8_setBit_49 : decode cX8_setBit 49 = .ok (.iconst (-1), 1) := by decide +kernel
theorem dX8_setBit_50 : decode cX8_setBit 50 = .ok (.if_icmp .eq 24, 3) := by decide +kernel
theorem dX8_setBit_53 : decode cX8_setBit 53 = .ok (.aload_n 1, 1) := by decide +kernel
theorem dX8_setBit_54 : decode cX8_setBit 54 = .ok (.iload 8, 2) := by decide +kernel
theorem dX8_setBit_56 : decode cX8_setBit 56 = .ok (.aload_n 2, 1) := by decide +kernel
theorem dX8_setBit_57 : decode cX8_setBit 57 = .ok (.iload 8, 2) := by decide +kernel
theorem dX8_setBit_59 : decode cX8_setBit 59 = .ok (.aload_n 1, 1) := by decide +kernel
theorem dX8_setBit_60 : decode cX8_setBit 60 = .ok (.iload 8, 2) := by decide +kernel
theorem dX8_setBit_62 : decode cX8_setBit 62 = .ok (.invokevirtual 74, 3) := by decide +kernel
theorem dX8_setBit_65 : decode cX8_setBit 65 = .ok (.invokevirtual 89, 3) := by decide +kernel
theorem dX8_setBit_68 : decode cX8_setBit 68 = .ok (.invokevirtual 92, 3) := by decide +kernel
theorem dX8_setBit_71 : decode cX8_setBit 71 = .ok (.iinc 5 1, 3) := by decide +kernel
theorem dX2_weaveInto_0 : decode cX2_weaveInto 0 = .ok (.iconst 0, 1) := by decide +kernel
theorem dX2_weaveInto_1 : decode cX2_weaveInto 1 = .ok (.istore 4, 2) := by decide +kernel
theorem dX2_weaveInto_3 : decode cX2_weaveInto 3 = .ok (.iconst 0, 1) := by decide +kernel
theorem dX2_weaveInto_4 : decode cX2_weaveInto 4 = .ok (.istore 5, 2) := by decide +kernel
theorem dX2_weaveInto_6 : decode cX2_weaveInto 6 = .ok (.iload 5, 2) := by decide +kernel
theorem dX2_weaveInto_8 : decode cX2_weaveInto 8 = .ok (.aload_n 0, 1) := by decide +kernel
theorem dX2_weaveInto_9 : decode cX2_weaveInto 9 = .ok (.getfield 21, 3) := by decide +kernel
theorem dX2_weaveInto_12 : decode cX2_weaveInto 12 = .ok (.if_icmp .gt 77, 3) := by decide +kernel
theorem dX2_weaveInto_89 : decode cX2_weaveInto 89 = .ok (.iload 4, 2) := by decide +kernel
theorem dX2_weaveInto_91 : decode cX2_weaveInto 91 = .ok (.ireturn, 1) := by decide +kernel
theorem dX2_weaveInto_15 : decode cX2_weaveInto 15 = .ok (.iload 5, 2) := by decide +kernel
theorem dX2_weaveInto_17 : decode cX2_weaveInto 17 = .ok (.aload_n 0, 1) := by decide +kernel
theorem dX2_weaveInto_18 : decode cX2_weaveInto 18 = .ok (.getfield 21, 3) := by decide +kernel
theorem dX2_weaveInto_35 : decode cX2_weaveInto 35 = .ok (.istore 6, 2) := by decide +kernel
theorem dX2_weaveInto_37 : decode cX2_weaveInto 37 = .ok (.iconst 0, 1) := by decide +kernel
theorem dX2_weaveInto_38 : decode cX2_weaveInto 38 = .ok (.istore 7, 2) := by decide +kernel
theorem dX2_weaveInto_40 : decode cX2_weaveInto 40 = .ok (.iload 7, 2) := by decide +kernel
theorem dX2_weaveInto_42 : decode cX2_weaveInto 42 = .ok (.iconst 5, 1) := by decide +kernel
theorem dX2_weaveInto_43 : decode cX2_weaveInto 43 = .ok (.if_icmp .ge 40, 3) := by decide +kernel
theorem dX2_weaveInto_83 : decode cX2_weaveInto 83 = .ok (.iinc 5 1, 3) := by decide +kernel
theorem dX2_weaveInto_86 : decode cX2_weaveInto 86 = .ok (.goto (-80), 3) := by decide +kernel
theorem dX2_weaveInto_46 : decode cX2_weaveInto 46 = .ok (.iload 6, 2) := by decide +kernel
theorem dX2_weaveInto_48 : decode cX2_weaveInto 48 = .ok (.iconst 4, 1) := by decide +kernel
theorem dX2_weaveInto_49 : decode cX2_weaveInto 49 = .ok (.iload 7, 2) := by decide +kernel
theorem dX2_weaveInto_51 : decode cX2_weaveInto 51 = .ok (.isub, 1) := by decide +kernel
theorem dX2_weaveInto_52 : decode cX2_weaveInto 52 = .ok (.ishr, 1) := by decide +kernel
theorem dX2_weaveInto_53 : decode cX2_weaveInto 53 = .ok (.iconst 1, 1) := by decide +kernel
theorem dX2_weaveInto_54 : decode cX2_weaveInto 54 = .ok (.iand, 1) := by decide +kernel
theorem dX2_weaveInto_55 : decode cX2_weaveInto 55 = .ok (.istore 8, 2) := by decide +kernel
theorem dX2_weaveInto_57 : decode cX2_weaveInto 57 = .ok (.iload 4, 2) := by decide +kernel
theorem dX2_weaveInto_59 : decode cX2_weaveInto 59 = .ok (.aload_n 3, 1) := by decide +kernel
theorem dX2_weaveInto_60 : decode cX2_weaveInto 60 = .ok (.aload_n 1, 1) := by decide +kernel
theorem dX2_weaveInto_61 : decode cX2_weaveInto 61 = .ok (.aload_n 2, 1) := by decide +kernel
theorem dX2_weaveInto_62 : decode cX2_weaveInto 62 = .ok (.iload 5, 2) := by decide +kernel
theorem dX2_weaveInto_64 : decode cX2_weaveInto 64 = .ok (.iconst 5, 1) := by decide +kernel
theorem dX2_weaveInto_65 : decode cX2_weaveInto 65 = .ok (.imul, 1) := by decide +kernel
theorem dX2_weaveInto_66 : decode cX2_weaveInto 66 = .ok (.iload 7, 2) := by decide +kernel
theorem dX2_weaveInto_68 : decode cX2_weaveInto 68 = .ok (.iadd, 1) := by decide +kernel
theorem dX2_weaveInto_69 : decode cX2_weaveInto 69 = .ok (.iload 8, 2) := by decide +kernel
theorem dX2_weaveInto_71 : decode cX2_weaveInto 71 = .ok (.invokevirtual 48, 3) := by decide +kernel
theorem dX2_weaveInto_74 : decode cX2_weaveInto 74 = .ok (.iadd, 1) := by decide +kernel
theorem dX2_weaveInto_75 : decode cX2_weaveInto 75 = .ok (.istore 4, 2) := by decide +kernel
theorem dX2_weaveInto_77 : decode cX2_weaveInto 77 = .ok (.iinc 7 1, 3) := by decide +kernel
theorem dX2_weaveInto_80 : decode cX2_weaveInto 80 = .ok (.goto (-40), 3) := by decide +kernel
theorem dX2_weaveInto_21 : decode cX2_weaveInto 21 = .ok (.if_icmp .ge 12, 3) := by decide +kernel
theorem dX2_weaveInto_33 : decode cX2_weaveInto 33 = .ok (.bipush 31, 2) := by decide +kernel
theorem dX2_weaveInto_24 : decode cX2_weaveInto 24 = .ok (.aload_n 0, 1) := by decide +kernel
theorem dX2_weaveInto_25 : decode cX2_weaveInto 25 = .ok (.iload 5, 2) := by decide +kernel
theorem dX2_weaveInto_27 : decode cX2_weaveInto 27 = .ok (.invokevirtual 36, 3) := by decide +kernel
theorem dX2_weaveInto_30 : decode cX2_weaveInto 30 = .ok (.goto 5, 3) := by decide +kernel
theorem dX1_takeFrom_0 : decode cX1_takeFrom 0 = .ok (.aload_n 1, 1) := by decide +kernel
theorem dX1_takeFrom_1 : decode cX1_takeFrom 1 = .ok (.getfield 9, 3) := by decide +kernel
theorem dX1_takeFrom_4 : decode cX1_takeFrom 4 = .ok (.iconst 0, 1) := by decide +kernel
theorem dX1_takeFrom_5 : decode cX1_takeFrom 5 = .ok (.aload_n 0, 1) := by decide +kernel
theorem dX1_takeFrom_6 : decode cX1_takeFrom 6 = .ok (.getfield 9, 3) := by decide +kernel
theorem dX1_takeFrom_9 : decode cX1_takeFrom 9 = .ok (.iconst 0, 1) := by decide +kernel
theorem dX1_takeFrom_10 : decode cX1_takeFrom 10 = .ok (.sipush 256, 3) := by decide +kernel
theorem dX1_takeFrom_13 : decode cX1_takeFrom 13 = .ok (.invokestatic 15, 3) := by decide +kernel
theorem dX1_takeFrom_16 : decode cX1_takeFrom 16 = .ok (.aload_n 0, 1) := by decide +kernel
theorem dX1_takeFrom_17 : decode cX1_takeFrom 17 = .ok (.aload_n 1, 1) := by decide +kernel
theorem dX1_takeFrom_18 : decode cX1_takeFrom 18 = .ok (.getfield 21, 3) := by decide +kernel
theorem dX1_takeFrom_21 : decode cX1_takeFrom 21 = .ok (.putfield 21, 3) := by decide +kernel
theorem dX1_takeFrom_24 : decode cX1_takeFrom 24 = .ok (.return_, 1) := by decide +kernel
theorem dX1_knitBy_0 : decode cX1_knitBy 0 = .ok (.aload_n 0, 1) := by decide +kernel
theorem dX1_knitBy_1 : decode cX1_knitBy 1 = .ok (.iconst 1, 1) := by decide +kernel
theorem dX1_knitBy_2 : decode cX1_knitBy 2 = .ok (.putfield 21, 3) := by decide +kernel
theorem dX1_knitBy_5 : decode cX1_knitBy 5 = .ok (.iload_n 3, 1) := by decide +kernel
theorem dX1_knitBy_6 : decode cX1_knitBy 6 = .ok (.i2l, 1) := by decide +kernel
theorem dX1_knitBy_7 : decode cX1_knitBy 7 = .ok (.lstore 4, 2) := by decide +kernel
theorem dX1_knitBy_9 : decode cX1_knitBy 9 = .ok (.iconst 0, 1) := by decide +kernel
theorem dX1_knitBy_10 : decode cX1_knitBy 10 = .ok (.istore 6, 2) := by decide +kernel
theorem dX1_knitBy_12 : decode cX1_knitBy 12 = .ok (.iconst 0, 1) := by decide +kernel
theorem dX1_knitBy_13 : decode cX1_knitBy 13 = .ok (.istore 7, 2) := by decide +kernel
theorem dX1_knitBy_15 : decode cX1_knitBy 15 = .ok (.iload 7, 2) := by decide +kernel
theorem dX1_knitBy_17 : decode cX1_knitBy 17 = .ok (.aload_n 1, 1) := by decide +kernel
theorem dX1_knitBy_18 : decode cX1_knitBy 18 = .ok (.invokevirtual 25, 3) := by decide +kernel
theorem dX1_knitBy_21 : decode cX1_knitBy 21 = .ok (.if_icmp .ge 129, 3) := by decide +kernel
theorem dX1_knitBy_150 : decode cX1_knitBy 150 = .ok (.iload 6, 2) := by decide +kernel
theorem dX1_knitBy_152 : decode cX1_knitBy 152 = .ok (.ireturn, 1) := by decide +kernel
theorem dX1_knitBy_24 : decode cX1_knitBy 24 = .ok (.aload_n 1, 1) := by decide +kernel
theorem dX1_knitBy_25 : decode cX1_knitBy 25 = .ok (.iload 7, 2) := by decide +kernel
theorem dX1_knitBy_27 : decode cX1_knitBy 27 = .ok (.invokevirtual 31, 3) := by decide +kernel
theorem dX1_knitBy_30 : decode cX1_knitBy 30 = .ok (.iconst 2, 1) := by decide +kernel
theorem dX1_knitBy_31 : decode cX1_knitBy 31 = .ok (.isub, 1) := by decide +kernel
theorem dX1_knitBy_32 : decode cX1_knitBy 32 = .ok (.istore 8, 2) := by decide +kernel
theorem dX1_knitBy_34 : decode cX1_knitBy 34 = .ok (.iload 8, 2) := by decide +kernel
theorem dX1_knitBy_36 : decode cX1_knitBy 36 = .ok (.ifCond .lt 91, 3) := by decide +kernel
theorem dX1_knitBy_127 : decode cX1_knitBy 127 = .ok (.aload_n 0, 1) := by decide +kernel
theorem dX1_knitBy_128 : decode cX1_knitBy 128 = .ok (.iload 7, 2) := by decide +kernel
theorem dX1_knitBy_130 : decode cX1_knitBy 130 = .ok (.iload 8, 2) := by decide +kernel
theorem dX1_knitBy_132 : decode cX1_knitBy 132 = .ok (.iconst (-1), 1) := by decide +kernel
theorem dX1_knitBy_133 : decode cX1_knitBy 133 = .ok (.if_icmp .ne 7, 3) := by decide +kernel
theorem dX1_knitBy_140 : decode cX1_knitBy 140 = .ok (.iconst 0, 1) := by decide +kernel
theorem dX1_knitBy_141 : decode cX1_knitBy 141 = .ok (.invokevirtual 48, 3) := by decide +kernel
theorem dX1_knitBy_144 : decode cX1_knitBy 144 = .ok (.iinc 7 1, 3) := by decide +kernel
theorem dX1_knitBy_147 : decode cX1_knitBy 147 = .ok (.goto (-132), 3) := by decide +kernel
theorem dX1_knitBy_136 : decode cX1_knitBy 136 = .ok (.iconst 1, 1) := by decide +kernel
theorem dX1_knitBy_137 : decode cX1_knitBy 137 = .ok (.goto 4, 3) := by decide +kernel
