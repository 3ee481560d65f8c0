theorem dX12_clears_0 : decode cX12_clears 0 = .ok (.iload_n 1, 1) := by decide +kernel
theorem dX12_clears_1 : decode cX12_clears 1 = .ok (.istore_n 3, 1) := by decide +kernel
theorem dX12_clears_2 : decode cX12_clears 2 = .ok (.iload_n 3, 1) := by decide +kernel
theorem dX12_clears_3 : decode cX12_clears 3 = .ok (.iload_n 2, 1) := by decide +kernel
theorem dX12_clears_4 : decode cX12_clears 4 = .ok (.if_icmp .ge 16, 3) := by decide +kernel
theorem dX12_clears_20 : decode cX12_clears 20 = .ok (.return_, 1) := by decide +kernel
theorem dX12_clears_7 : decode cX12_clears 7 = .ok (.aload_n 0, 1) := by decide +kernel
theorem dX12_clears_8 : decode cX12_clears 8 = .ok (.getfield 34, 3) := by decide +kernel
theorem dX12_clears_11 : decode cX12_clears 11 = .ok (.iload_n 3, 1) := by decide +kernel
theorem dX12_clears_12 : decode cX12_clears 12 = .ok (.iconst 0, 1) := by decide +kernel
theorem dX12_clears_13 : decode cX12_clears 13 = .ok (.iastore, 1) := by decide +kernel
theorem dX12_clears_14 : decode cX12_clears 14 = .ok (.iinc 3 1, 3) := by decide +kernel
theorem dX12_clears_17 : decode cX12_clears 17 = .ok (.goto (-15), 3) := by decide +kernel
theorem dX12_keeps_0 : decode cX12_keeps 0 = .ok (.iload_n 1, 1) := by decide +kernel
theorem dX12_keeps_1 : decode cX12_keeps 1 = .ok (.istore_n 3, 1) := by decide +kernel
theorem dX12_keeps_2 : decode cX12_keeps 2 = .ok (.iload_n 3, 1) := by decide +kernel
theorem dX12_keeps_3 : decode cX12_keeps 3 = .ok (.iload_n 2, 1) := by decide +kernel
theorem dX12_keeps_4 : decode cX12_keeps 4 = .ok (.if_icmp .ge 21, 3) := by decide +kernel
theorem dX12_keeps_25 : decode cX12_keeps 25 = .ok (.return_, 1) := by decide +kernel
theorem dX12_keeps_7 : decode cX12_keeps 7 = .ok (.aload_n 0, 1) := by decide +kernel
theorem dX12_keeps_8 : decode cX12_keeps 8 = .ok (.getfield 13, 3) := by decide +kernel
theorem dX12_keeps_11 : decode cX12_keeps 11 = .ok (.iload_n 3, 1) := by decide +kernel
theorem dX12_keeps_12 : decode cX12_keeps 12 = .ok (.aload_n 0, 1) := by decide +kernel
theorem dX12_keeps_13 : decode cX12_keeps 13 = .ok (.getfield 34, 3) := by decide +kernel
theorem dX12_keeps_16 : decode cX12_keeps 16 = .ok (.iload_n 3, 1) := by decide +kernel
theorem dX12_keeps_17 : decode cX12_keeps 17 = .ok (.iaload, 1) := by decide +kernel
theorem dX12_keeps_18 : decode cX12_keeps 18 = .ok (.iastore, 1) := by decide +kernel
theorem dX12_keeps_19 : decode cX12_keeps 19 = .ok (.iinc 3 1, 3) := by decide +kernel
theorem dX12_keeps_22 : decode cX12_keeps 22 = .ok (.goto (-20), 3) := by decide +kernel
theorem dX12_fault_0 : decode cX12_fault 0 = .ok (.iload_n 1, 1) := by decide +kernel
theorem dX12_fault_1 : decode cX12_fault 1 = .ok (.ifCond .ne 10, 3) := by decide +kernel
theorem dX12_fault_11 : decode cX12_fault 11 = .ok (.iload_n 1, 1) := by decide +kernel
theorem dX12_fault_12 : decode cX12_fault 12 = .ok (.iconst 1, 1) := by decide +kernel
theorem dX12_fault_13 : decode cX12_fault 13 = .ok (.if_icmp .ne 10, 3) := by decide +kernel
theorem dX12_fault_23 : decode cX12_fault 23 = .ok (.iconst (-1), 1) := by decide +kernel
theorem dX12_fault_24 : decode cX12_fault 24 = .ok (.ireturn, 1) := by decide +kernel
theorem dX12_fault_16 : decode cX12_fault 16 = .ok (.aload_n 0, 1) := by decide +kernel
theorem dX12_fault_17 : decode cX12_fault 17 = .ok (.getfield 31, 3) := by decide +kernel
theorem dX12_fault_20 : decode cX12_fault 20 = .ok (.goto 4, 3) := by decide +kernel
theorem dX12_fault_4 : decode cX12_fault 4 = .ok (.aload_n 0, 1) := by decide +kernel
theorem dX12_fault_5 : decode cX12_fault 5 = .ok (.getfield 111, 3) := by decide +kernel
theorem dX12_fault_8 : decode cX12_fault 8 = .ok (.goto 16, 3) := by decide +kernel
theorem dX12_end_0 : decode cX12_end 0 = .ok (.iload_n 1, 1) := by decide +kernel
theorem dX12_end_1 : decode cX12_end 1 = .ok (.i2l, 1) := by decide +kernel
theorem dX12_end_2 : decode cX12_end 2 = .ok (.lconst 0, 1) := by decide +kernel
theorem dX12_end_3 : decode cX12_end 3 = .ok (.aload_n 0, 1) := by decide +kernel
theorem dX12_end_4 : decode cX12_end 4 = .ok (.getfield 102, 3) := by decide +kernel
theorem dX12_end_7 : decode cX12_end 7 = .ok (.i2l, 1) := by decide +kernel
theorem dX12_end_8 : decode cX12_end 8 = .ok (.invokestatic 79, 3) := by decide +kernel
theorem dX12_end_11 : decode cX12_end 11 = .ok (.ifCond .ne 5, 3) := by decide +kernel
theorem dX12_end_16 : decode cX12_end 16 = .ok (.aload_n 0, 1) := by decide +kernel
theorem dX12_end_17 : decode cX12_end 17 = .ok (.iload_n 1, 1) := by decide +kernel
theorem dX12_end_18 : decode cX12_end 18 = .ok (.putfield 102, 3) := by decide +kernel
theorem dX12_end_21 : decode cX12_end 21 = .ok (.iload_n 1, 1) := by decide +kernel
theorem dX12_end_22 : decode cX12_end 22 = .ok (.ireturn, 1) := by decide +kernel
theorem dX12_end_14 : decode cX12_end 14 = .ok (.iconst (-1), 1) := by decide +kernel
theorem dX12_end_15 : decode cX12_end 15 = .ok (.ireturn, 1) := by decide +kernel
theorem dX12_feed_0 : decode cX12_feed 0 = .ok (.aload_n 0, 1) := by decide +kernel
theorem dX12_feed_1 : decode cX12_feed 1 = .ok (.getfield 102, 3) := by decide +kernel
theorem dX12_feed_4 : decode cX12_feed 4 = .ok (.bipush 20, 2) := by decide +kernel
theorem dX12_feed_6 : decode cX12_feed 6 = .ok (.iadd, 1) := by decide +kernel
theorem dX12_feed_7 : decode cX12_feed 7 = .ok (.sipush 600, 3) := by decide +kernel
theorem dX12_feed_10 : decode cX12_feed 10 = .ok (.if_icmp .le 5, 3) := by decide +kernel
theorem dX12_feed_15 : decode cX12_feed 15 = .ok (.aload_n 0, 1) := by decide +kernel
theorem dX12_feed_16 : decode cX12_feed 16 = .ok (.getfield 28, 3) := by decide +kernel
theorem dX12_feed_19 : decode cX12_feed 19 = .ok (.iconst 0, 1) := by decide +kernel
theorem dX12_feed_20 : decode cX12_feed 20 = .ok (.iload_n 1, 1) := by decide +kernel
theorem dX12_feed_21 : decode cX12_feed 21 = .ok (.iastore, 1) := by decide +kernel
theorem dX12_feed_22 : decode cX12_feed 22 = .ok (.aload_n 0, 1) := by decide +kernel
theorem dX12_feed_23 : decode cX12_feed 23 = .ok (.getfield 28, 3) := by decide +kernel
theorem dX12_feed_26 : decode cX12_feed 26 = .ok (.iconst 1, 1) := by decide +kernel
theorem dX12_feed_27 : decode cX12_feed 27 = .ok (.iload_n 2, 1) := by decide +kernel
theorem dX12_feed_28 : decode cX12_feed 28 = .ok (.iastore, 1) := by decide +kernel
theorem dX12_feed_29 : decode cX12_feed 29 = .ok (.aload_n 0, 1) := by decide +kernel
theorem dX12_feed_30 : decode cX12_feed 30 = .ok (.getfield 28, 3) := by decide +kernel
theorem dX12_feed_33 : decode cX12_feed 33 = .ok (.iconst 2, 1) := by decide +kernel
theorem dX12_feed_34 : decode cX12_feed 34 = .ok (.iload_n 3, 1) := by decide +kernel
theorem dX12_feed_35 : decode cX12_feed 35 = .ok (.iastore, 1) := by decide +kernel
theorem dX12_feed_36 : decode cX12_feed 36 = .ok (.aload_n 0, 1) := by decide +kernel
theorem dX12_feed_37 : decode cX12_feed 37 = .ok (.getfield 28, 3) := by decide +kernel
theorem dX12_feed_40 : decode cX12_feed 40 = .ok (.iconst 3, 1) := by decide +kernel
theorem dX12_feed_41 : decode cX12_feed 41 = .ok (.iload 4, 2) := by decide +kernel
theorem dX12_feed_43 : decode cX12_feed 43 = .ok (.iastore, 1) := by decide +kernel
theorem dX12_feed_44 : decode cX12_feed 44 = .ok (.aload_n 0, 1) := by decide +kernel
theorem dX12_feed_45 : decode cX12_feed 45 = .ok (.getfield 28, 3) := by decide +kernel
theorem dX12_feed_48 : decode cX12_feed 48 = .ok (.iconst 4, 1) := by decide +kernel
theorem dX12_feed_49 : decode cX12_feed 49 = .ok (.iload 5, 2) := by decide +kernel
theorem dX12_feed_51 : decode cX12_feed 51 = .ok (.iastore, 1) := by decide +kernel
theorem dX12_feed_52 : decode cX12_feed 52 = .ok (.iconst 0, 1) := by decide +kernel
theorem dX12_feed_53 : decode cX12_feed 53 = .ok (.istore 6, 2) := by decide +kernel
theorem dX12_feed_55 : decode cX12_feed 55 = .ok (.iload 6, 2) := by decide +kernel
theorem dX12_feed_57 : decode cX12_feed 57 = .ok (.bipush 20, 2) := by decide +kernel
theorem dX12_feed_59 : decode cX12_feed 59 = .ok (.if_icmp .ge 42, 3) := by decide +kernel
theorem dX12_feed_62 : decode cX12_feed 62 = .ok (.aload_n 0, 1) := by decide +kernel
theorem dX12_feed_63 : decode cX12_feed 63 = .ok (.getfield 24, 3) := by decide +kernel
theorem dX12_feed_66 : decode cX12_feed 66 = .ok (.aload_n 0, 1) := by decide +kernel
theorem dX12_feed_67 : decode cX12_feed 67 = .ok (.getfield 102, 3) := by decide +kernel
theorem dX12_feed_70 : decode cX12_feed 70 = .ok (.iload 6, 2) := by decide +kernel
theorem dX12_feed_72 : decode cX12_feed 72 = .ok (.iadd, 1) := by decide +kernel
theorem dX12_feed_73 : decode cX12_feed 73 = .ok (.aload_n 0, 1) := by decide +kernel
theorem dX12_feed_74 : decode cX12_feed 74 = .ok (.getfield 28, 3) := by decide +kernel
theorem dX12_feed_77 : decode cX12_feed 77 = .ok (.iload 6, 2) := by decide +kernel
theorem dX12_feed_79 : decode cX12_feed 79 = .ok (.iconst 4, 1) := by decide +kernel
theorem dX12_feed_80 : decode cX12_feed 80 = .ok (.idiv, 1) := by decide +kernel
theorem dX12_feed_81 : decode cX12_feed 81 = .ok (.iaload, 1) := by decide +kernel
theorem dX12_feed_82 : decode cX12_feed 82 = .ok (.bipush 24, 2) := by decide +kernel
theorem dX12_feed_84 : decode cX12_feed 84 = .ok (.bipush 8, 2) := by decide +kernel
theorem dX12_feed_86 : decode cX12_feed 86 = .ok (.iload 6, 2) := by decide +kernel
theorem dX12_feed_88 : decode cX12_feed 88 = .ok (.iconst 4, 1) := by decide +kernel
theorem dX12_feed_89 : decode cX12_feed 89 = .ok (.irem, 1) := by decide +kernel
theorem dX12_feed_90 : decode cX12_feed 90 = .ok (.imul, 1) := by decide +kernel
theorem dX12_feed_91 : decode cX12_feed 91 = .ok (.isub, 1) := by decide +kernel
theorem dX12_feed_92 : decode cX12_feed 92 = .ok (.ishr, 1) := by decide +kernel
theorem dX12_feed_93 : decode cX12_feed 93 = .ok (.i2b, 1) := by decide +kernel
theorem dX12_feed_94 : decode cX12_feed 94 = .ok (.bastore, 1) := by decide +kernel
theorem dX12_feed_95 : decode cX12_feed 95 = .ok (.iinc 6 1, 3) := by decide +kernel
theorem dX12_feed_98 : decode cX12_feed 98 = .ok (.goto (-43), 3) := by decide +kernel
theorem dX12_feed_101 : decode cX12_feed 101 = .ok (.aload_n 0, 1) := by decide +kernel
theorem dX12_feed_102 : decode cX12_feed 102 = .ok (.dup, 1) := by decide +kernel
theorem dX12_feed_103 : decode cX12_feed 103 = .ok (.getfield 102, 3) := by decide +kernel
theorem dX12_feed_106 : decode cX12_feed 106 = .ok (.bipush 20, 2) := by decide +kernel
theorem dX12_feed_108 : decode cX12_feed 108 = .ok (.iadd, 1) := by decide +kernel
theorem dX12_feed_109 : decode cX12_feed 109 = .ok (.putfield 102, 3) := by decide +kernel
theorem dX12_feed_112 : decode cX12_feed 112 = .ok (.aload_n 0, 1) := by decide +kernel
theorem dX12_feed_113 : decode cX12_feed 113 = .ok (.getfield 102, 3) := by decide +kernel
theorem dX12_feed_116 : decode cX12_feed 116 = .ok (.ireturn, 1) := by decide +kernel
theorem dX12_begin_0 : decode cX12_begin 0 = .ok (.aload_n 0, 1) := by decide +kernel
theorem dX12_begin_1 : decode cX12_begin 1 = .ok (.aload_n 0, 1) := by decide +kernel
theorem dX12_begin_2 : decode cX12_begin 2 = .ok (.getfield 102, 3) := by decide +kernel
theorem dX12_begin_5 : decode cX12_begin 5 = .ok (.putfield 105, 3) := by decide +kernel
theorem dX12_begin_8 : decode cX12_begin 8 = .ok (.aload_n 0, 1) := by decide +kernel
theorem dX12_begin_9 : decode cX12_begin 9 = .ok (.iconst 0, 1) := by decide +kernel
theorem dX12_begin_10 : decode cX12_begin 10 = .ok (.putfield 102, 3) := by decide +kernel
theorem dX12_begin_13 : decode cX12_begin 13 = .ok (.aload_n 0, 1) := by decide +kernel
theorem dX12_begin_14 : decode cX12_begin 14 = .ok (.iconst 0, 1) := by decide +kernel
theorem dX12_begin_15 : decode cX12_begin 15 = .ok (.putfield 108, 3) := by decide +kernel
theorem dX12_begin_18 : decode cX12_begin 18 = .ok (.aload_n 0, 1) := by decide +kernel
theorem dX12_begin_19 : decode cX12_begin 19 = .ok (.iconst 0, 1) := by decide +kernel
theorem dX12_begin_20 : decode cX12_begin 20 = .ok (.putfield 111, 3) := by decide +kernel
theorem dX12_begin_23 : decode cX12_begin 23 = .ok (.aload_n 0, 1) := by decide +kernel
theorem dX12_begin_24 : decode cX12_begin 24 = .ok (.iconst (-1), 1) := by decide +kernel
theorem dX12_begin_25 : decode cX12_begin 25 = .ok (.putfield 31, 3) := by decide +kernel
theorem dX12_begin_28 : decode cX12_begin 28 = .ok (.return_, 1) := by decide +kernel
theorem dX12_see_0 : decode cX12_see 0 = .ok (.iload_n 1, 1) := by decide +kernel
theorem dX12_see_1 : decode cX12_see 1 = .ok (.aload_n 0, 1) := by decide +kernel
theorem dX12_see_2 : decode cX12_see 2 = .ok (.getfield 105, 3) := by decide +kernel
theorem dX12_see_5 : decode cX12_see 5 = .ok (.if_icmp .ge 16, 3) := by decide +kernel
theorem dX12_see_21 : decode cX12_see 21 = .ok (.iconst (-1), 1) := by decide +kernel
theorem dX12_see_22 : decode cX12_see 22 = .ok (.ireturn, 1) := by decide +kernel
theorem dX12_advance_0 : decode cX12_advance 0 = .ok (.aload_n 0, 1) := by decide +kernel
theorem dX12_advance_1 : decode cX12_advance 1 = .ok (.aload_n 0, 1) := by decide +kernel
theorem dX12_advance_2 : decode cX12_advance 2 = .ok (.getfield 108, 3) := by decide +kernel
theorem dX12_advance_5 : decode cX12_advance 5 = .ok (.invokevirtual 114, 3) := by decide +kernel
theorem dX12_advance_8 : decode cX12_advance 8 = .ok (.bipush 32, 2) := by decide +kernel
theorem dX12_advance_10 : decode cX12_advance 10 = .ok (.if_icmp .eq 16, 3) := by decide +kernel
theorem dX12_advance_13 : decode cX12_advance 13 = .ok (.aload_n 0, 1) := by decide +kernel
theorem dX12_advance_14 : decode cX12_advance 14 = .ok (.aload_n 0, 1) := by decide +kernel
theorem dX12_advance_15 : decode cX12_advance 15 = .ok (.getfield 108, 3) := by decide +kernel
theorem dX12_advance_18 : decode cX12_advance 18 = .ok (.invokevirtual 114, 3) := by decide +kernel
theorem dX12_advance_21 : decode cX12_advance 21 = .ok (.bipush 10, 2) := by decide +kernel
theorem dX12_advance_23 : decode cX12_advance 23 = .ok (.if_icmp .ne 16, 3) := by decide +kernel
theorem dX12_advance_39 : decode cX12_advance 39 = .ok (.aload_n 0, 1) := by decide +kernel
theorem dX12_advance_40 : decode cX12_advance 40 = .ok (.aload_n 0, 1) := by decide +kernel
theorem dX12_advance_41 : decode cX12_advance 41 = .ok (.getfield 108, 3) := by decide +kernel
theorem dX12_advance_44 : decode cX12_advance 44 = .ok (.putfield 117, 3) := by decide +kernel
theorem dX12_advance_47 : decode cX12_advance 47 = .ok (.aload_n 0, 1) := by decide +kernel
theorem dX12_advance_48 : decode cX12_advance 48 = .ok (.aload_n 0, 1) := by decide +kernel
theorem dX12_advance_49 : decode cX12_advance 49 = .ok (.getfield 108, 3) := by decide +kernel
theorem dX12_advance_52 : decode cX12_advance 52 = .ok (.invokevirtual 114, 3) := by decide +kernel
theorem dX12_advance_55 : decode cX12_advance 55 = .ok (.istore_n 1, 1) := by decide +kernel
theorem dX12_advance_56 : decode cX12_advance 56 = .ok (.iload_n 1, 1) := by decide +kernel
theorem dX12_advance_57 : decode cX12_advance 57 = .ok (.iconst (-1), 1) := by decide +kernel
theorem dX12_advance_58 : decode cX12_advance 58 = .ok (.if_icmp .ne 11, 3) := by decide +kernel
theorem dX12_advance_61 : decode cX12_advance 61 = .ok (.aload_n 0, 1) := by decide +kernel
theorem dX12_advance_62 : decode cX12_advance 62 = .ok (.iconst 0, 1) := by decide +kernel
theorem dX12_advance_63 : decode cX12_advance 63 = .ok (.putfield 120, 3) := by decide +kernel
theorem dX12_advance_66 : decode cX12_advance 66 = .ok (.goto 174, 3) := by decide +kernel
theorem dX12_advance_240 : decode cX12_advance 240 = .ok (.return_, 1) := by decide +kernel
theorem dX12_good_0 : decode cX12_good 0 = .ok (.aload_n 0, 1) := by decide +kernel
theorem dX12_good_1 : decode cX12_good 1 = .ok (.getfield 111, 3) := by decide +kernel
theorem dX12_good_4 : decode cX12_good 4 = .ok (.ifCond .ne 7, 3) := by decide +kernel
theorem dX12_good_7 : decode cX12_good 7 = .ok (.iconst 1, 1) := by decide +kernel
theorem dX12_good_8 : decode cX12_good 8 = .ok (.goto 4, 3) := by decide +kernel
theorem dX12_good_12 : decode cX12_good 12 = .ok (.ireturn, 1) := by decide +kernel
theorem dX12_losses_0 : decode cX12_losses 0 = .ok (.aload_n 0, 1) := by decide +kernel
theorem dX12_losses_1 : decode cX12_losses 1 = .ok (.invokevirtual 181, 3) := by decide +kernel
theorem dX12_losses_4 : decode cX12_losses 4 = .ok (.aload_n 0, 1) := by decide +kernel
theorem dX12_losses_5 : decode cX12_losses 5 = .ok (.getfield 34, 3) := by decide +kernel
theorem dX12_losses_8 : decode cX12_losses 8 = .ok (.bipush 6, 2) := by decide +kernel
theorem dX12_losses_10 : decode cX12_losses 10 = .ok (.iconst 0, 1) := by decide +kernel
theorem dX12_losses_11 : decode cX12_losses 11 = .ok (.iastore, 1) := by decide +kernel
theorem dX12_losses_12 : decode cX12_losses 12 = .ok (.aload_n 0, 1) := by decide +kernel
theorem dX12_losses_13 : decode cX12_losses 13 = .ok (.invokevirtual 156, 3) := by decide +kernel
theorem dX12_losses_16 : decode cX12_losses 16 = .ok (.aload_n 0, 1) := by decide +kernel
theorem dX12_losses_17 : decode cX12_losses 17 = .ok (.invokevirtual 139, 3) := by decide +kernel
theorem dX12_losses_20 : decode cX12_losses 20 = .ok (.ifCond .eq 17, 3) := by decide +kernel
theorem dX12_losses_23 : decode cX12_losses 23 = .ok (.aload_n 0, 1) := by decide +kernel
theorem dX12_losses_24 : decode cX12_losses 24 = .ok (.getfield 120, 3) := by decide +kernel
theorem dX12_losses_27 : decode cX12_losses 27 = .ok (.ifCond .eq 10, 3) := by decide +kernel
theorem dX12_losses_37 : decode cX12_losses 37 = .ok (.aload_n 0, 1) := by decide +kernel
theorem dX12_losses_38 : decode cX12_losses 38 = .ok (.invokevirtual 139, 3) := by decide +kernel
theorem dX12_losses_41 : decode cX12_losses 41 = .ok (.ifCond .ne 6, 3) := by decide +kernel
theorem dX12_losses_47 : decode cX12_losses 47 = .ok (.aload_n 0, 1) := by decide +kernel
theorem dX12_losses_48 : decode cX12_losses 48 = .ok (.getfield 13, 3) := by decide +kernel
theorem dX12_losses_51 : decode cX12_losses 51 = .ok (.bipush 6, 2) := by decide +kernel
theorem dX12_losses_53 : decode cX12_losses 53 = .ok (.aload_n 0, 1) := by decide +kernel
theorem dX12_losses_54 : decode cX12_losses 54 = .ok (.getfield 34, 3) := by decide +kernel
theorem dX12_losses_57 : decode cX12_losses 57 = .ok (.bipush 6, 2) := by decide +kernel
theorem dX12_losses_59 : decode cX12_losses 59 = .ok (.iaload, 1) := by decide +kernel
theorem dX12_losses_60 : decode cX12_losses 60 = .ok (.iastore, 1) := by decide +kernel
theorem dX12_losses_61 : decode cX12_losses 61 = .ok (.aload_n 0, 1) := by decide +kernel
theorem dX12_losses_62 : decode cX12_losses 62 = .ok (.sipush 1012, 3) := by decide +kernel
theorem dX12_losses_65 : decode cX12_losses 65 = .ok (.sipush 1048, 3) := by decide +kernel
theorem dX12_losses_68 : decode cX12_losses 68 = .ok (.invokevirtual 197, 3) := by decide +kernel
theorem dX12_losses_71 : decode cX12_losses 71 = .ok (.aload_n 0, 1) := by decide +kernel
theorem dX12_losses_72 : decode cX12_losses 72 = .ok (.getfield 13, 3) := by decide +kernel
theorem dX12_losses_75 : decode cX12_losses 75 = .ok (.bipush 6, 2) := by decide +kernel
theorem dX12_losses_77 : decode cX12_losses 77 = .ok (.iaload, 1) := by decide +kernel
theorem dX12_losses_78 : decode cX12_losses 78 = .ok (.ireturn, 1) := by decide +kernel
theorem dX12_watcher_0 : decode cX12_watcher 0 = .ok (.aload_n 0, 1) := by decide +kernel
theorem dX12_watcher_1 : decode cX12_watcher 1 = .ok (.invokevirtual 181, 3) := by decide +kernel
theorem dX12_watcher_4 : decode cX12_watcher 4 = .ok (.aload_n 0, 1) := by decide +kernel
theorem dX12_watcher_5 : decode cX12_watcher 5 = .ok (.iconst 3, 1) := by decide +kernel
theorem dX12_watcher_6 : decode cX12_watcher 6 = .ok (.bipush 6, 2) := by decide +kernel
theorem dX12_watcher_8 : decode cX12_watcher 8 = .ok (.invokevirtual 184, 3) := by decide +kernel
theorem dX12_watcher_11 : decode cX12_watcher 11 = .ok (.aload_n 0, 1) := by decide +kernel
theorem dX12_watcher_12 : decode cX12_watcher 12 = .ok (.invokevirtual 156, 3) := by decide +kernel
theorem dX12_watcher_15 : decode cX12_watcher 15 = .ok (.aload_n 0, 1) := by decide +kernel
theorem dX12_watcher_16 : decode cX12_watcher 16 = .ok (.invokevirtual 139, 3) := by decide +kernel
theorem dX12_watcher_19 : decode cX12_watcher 19 = .ok (.ifCond .eq 95, 3) := by decide +kernel
theorem dX12_watcher_22 : decode cX12_watcher 22 = .ok (.aload_n 0, 1) := by decide +kernel
theorem dX12_watcher_23 : decode cX12_watcher 23 = .ok (.getfield 120, 3) := by decide +kernel
theorem dX12_watcher_26 : decode cX12_watcher 26 = .ok (.ifCond .eq 88, 3) := by decide +kernel
theorem dX12_watcher_114 : decode cX12_watcher 114 = .ok (.aload_n 0, 1) := by decide +kernel
theorem dX12_watcher_115 : decode cX12_watcher 115 = .ok (.invokevirtual 139, 3) := by decide +kernel
theorem dX12_watcher_118 : decode cX12_watcher 118 = .ok (.ifCond .ne 6, 3) := by decide +kernel
theorem dX12_watcher_124 : decode cX12_watcher 124 = .ok (.aload_n 0, 1) := by decide +kernel
theorem dX12_watcher_125 : decode cX12_watcher 125 = .ok (.iconst 3, 1) := by decide +kernel
theorem dX12_watcher_126 : decode cX12_watcher 126 = .ok (.bipush 6, 2) := by decide +kernel
theorem dX12_watcher_128 : decode cX12_watcher 128 = .ok (.invokevirtual 197, 3) := by decide +kernel
theorem dX12_watcher_131 : decode cX12_watcher 131 = .ok (.aload_n 0, 1) := by decide +kernel
theorem dX12_watcher_132 : decode cX12_watcher 132 = .ok (.sipush 162, 3) := by decide +kernel
theorem dX12_watcher_135 : decode cX12_watcher 135 = .ok (.sipush 1012, 3) := by decide +kernel
theorem dX12_watcher_138 : decode cX12_watcher 138 = .ok (.invokevirtual 197, 3) := by decide +kernel
theorem dX12_watcher_141 : decode cX12_watcher 141 = .ok (.aload_n 0, 1) := by decide +kernel
theorem dX12_watcher_142 : decode cX12_watcher 142 = .ok (.getfield 13, 3) := by decide +kernel
theorem dX12_watcher_145 : decode cX12_watcher 145 = .ok (.iconst 3, 1) := by decide +kernel
theorem dX12_watcher_146 : decode cX12_watcher 146 = .ok (.iaload, 1) := by decide +kernel
theorem dX12_watcher_147 : decode cX12_watcher 147 = .ok (.ireturn, 1) := by decide +kernel
theorem dX12_is_0 : decode cX12_is 0 = .ok (.aload_n 0, 1) := by decide +kernel
theorem dX12_is_1 : decode cX12_is 1 = .ok (.invokevirtual 139, 3) := by decide +kernel
theorem dX12_is_4 : decode cX12_is 4 = .ok (.ifCond .eq 31, 3) := by decide +kernel
theorem dX12_is_7 : decode cX12_is 7 = .ok (.aload_n 0, 1) := by decide +kernel
theorem dX12_is_8 : decode cX12_is 8 = .ok (.getfield 120, 3) := by decide +kernel
theorem dX12_is_11 : decode cX12_is 11 = .ok (.iconst 1, 1) := by decide +kernel
theorem dX12_is_12 : decode cX12_is 12 = .ok (.if_icmp .ne 23, 3) := by decide +kernel
theorem dX12_is_35 : decode cX12_is 35 = .ok (.iconst 0, 1) := by decide +kernel
theorem dX12_is_36 : decode cX12_is 36 = .ok (.istore_n 2, 1) := by decide +kernel
theorem dX12_is_37 : decode cX12_is 37 = .ok (.iconst 0, 1) := by decide +kernel
theorem dX12_is_38 : decode cX12_is 38 = .ok (.istore_n 3, 1) := by decide +kernel
theorem dX12_is_39 : decode cX12_is 39 = .ok (.iload_n 3, 1) := by decide +kernel
theorem dX12_is_40 : decode cX12_is 40 = .ok (.aload_n 1, 1) := by decide +kernel
theorem dX12_is_41 : decode cX12_is 41 = .ok (.invokevirtual 143, 3) := by decide +kernel
theorem dX12_is_44 : decode cX12_is 44 = .ok (.if_icmp .ge 38, 3) := by decide +kernel
theorem dX12_is_82 : decode cX12_is 82 = .ok (.iload_n 2, 1) := by decide +kernel
theorem dX12_is_83 : decode cX12_is 83 = .ok (.ireturn, 1) := by decide +kernel
theorem dX12_is_47 : decode cX12_is 47 = .ok (.iload_n 2, 1) := by decide +kernel
theorem dX12_is_48 : decode cX12_is 48 = .ok (.ifCond .eq 34, 3) := by decide +kernel
theorem dX12_takes_0 : decode cX12_takes 0 = .ok (.aload_n 0, 1) := by decide +kernel
theorem dX12_takes_1 : decode cX12_takes 1 = .ok (.aload_n 1, 1) := by decide +kernel
theorem dX12_takes_2 : decode cX12_takes 2 = .ok (.invokevirtual 152, 3) := by decide +kernel
theorem dX12_takes_5 : decode cX12_takes 5 = .ok (.istore_n 2, 1) := by decide +kernel
theorem dX12_takes_6 : decode cX12_takes 6 = .ok (.iload_n 2, 1) := by decide +kernel
theorem dX12_takes_7 : decode cX12_takes 7 = .ok (.ifCond .eq 7, 3) := by decide +kernel
theorem dX12_takes_14 : decode cX12_takes 14 = .ok (.iload_n 2, 1) := by decide +kernel
theorem dX12_takes_15 : decode cX12_takes 15 = .ok (.ireturn, 1) := by decide +kernel
theorem dX12_errs_0 : decode cX12_errs 0 = .ok (.aload_n 0, 1) := by decide +kernel
theorem dX12_errs_1 : decode cX12_errs 1 = .ok (.invokevirtual 139, 3) := by decide +kernel
theorem dX12_errs_4 : decode cX12_errs 4 = .ok (.ifCond .ne 4, 3) := by decide +kernel
theorem dX12_errs_8 : decode cX12_errs 8 = .ok (.aload_n 0, 1) := by decide +kernel
theorem dX12_errs_9 : decode cX12_errs 9 = .ok (.iload_n 1, 1) := by decide +kernel
theorem dX12_errs_10 : decode cX12_errs 10 = .ok (.putfield 111, 3) := by decide +kernel
theorem dX12_errs_13 : decode cX12_errs 13 = .ok (.aload_n 0, 1) := by decide +kernel
theorem dX12_errs_14 : decode cX12_errs 14 = .ok (.aload_n 0, 1) := by decide +kernel
theorem dX12_errs_15 : decode cX12_errs 15 = .ok (.getfield 117, 3) := by decide +kernel
theorem dX12_errs_18 : decode cX12_errs 18 = .ok (.putfield 31, 3) := by decide +kernel
theorem dX12_errs_21 : decode cX12_errs 21 = .ok (.return_, 1) := by decide +kernel
theorem dX12_needs_0 : decode cX12_needs 0 = .ok (.aload_n 0, 1) := by decide +kernel
theorem dX12_needs_1 : decode cX12_needs 1 = .ok (.aload_n 1, 1) := by decide +kernel
theorem dX12_needs_2 : decode cX12_needs 2 = .ok (.invokevirtual 159, 3) := by decide +kernel
theorem dX12_needs_5 : decode cX12_needs 5 = .ok (.ifCond .ne 8, 3) := by decide +kernel
theorem dX12_needs_8 : decode cX12_needs 8 = .ok (.aload_n 0, 1) := by decide +kernel
theorem dX12_needs_9 : decode cX12_needs 9 = .ok (.iconst 1, 1) := by decide +kernel
theorem dX12_needs_10 : decode cX12_needs 10 = .ok (.invokevirtual 162, 3) := by decide +kernel
theorem dX12_needs_13 : decode cX12_needs 13 = .ok (.return_, 1) := by decide +kernel
theorem dX12_good_11 : decode cX12_good 11 = .ok (.iconst 0, 1) := by decide +kernel
theorem dX12_number_0 : decode cX12_number 0 = .ok (.aload_n 0, 1) := by decide +kernel
theorem dX12_number_1 : decode cX12_number 1 = .ok (.invokevirtual 139, 3) := by decide +kernel
theorem dX12_number_4 : decode cX12_number 4 = .ok (.ifCond .eq 16, 3) := by decide +kernel
theorem dX12_number_20 : decode cX12_number 20 = .ok (.aload_n 0, 1) := by decide +kernel
theorem dX12_number_21 : decode cX12_number 21 = .ok (.invokevirtual 139, 3) := by decide +kernel
theorem dX12_number_24 : decode cX12_number 24 = .ok (.ifCond .eq 23, 3) := by decide +kernel
theorem dX12_number_47 : decode cX12_number 47 = .ok (.aload_n 0, 1) := by decide +kernel
theorem dX12_number_48 : decode cX12_number 48 = .ok (.invokevirtual 139, 3) := by decide +kernel
theorem dX12_number_51 : decode cX12_number 51 = .ok (.ifCond .ne 5, 3) := by decide +kernel
theorem dX12_number_54 : decode cX12_number 54 = .ok (.iconst 0, 1) := by decide +kernel
theorem dX12_number_55 : decode cX12_number 55 = .ok (.ireturn, 1) := by decide +kernel
theorem dX12_told_0 : decode cX12_told 0 = .ok (.aload_n 0, 1) := by decide +kernel
theorem dX12_told_1 : decode cX12_told 1 = .ok (.aload_n 1, 1) := by decide +kernel
theorem dX12_told_2 : decode cX12_told 2 = .ok (.invokevirtual 166, 3) := by decide +kernel
theorem dX12_told_5 : decode cX12_told 5 = .ok (.aload_n 0, 1) := by decide +kernel
theorem dX12_told_6 : decode cX12_told 6 = .ok (.iload_n 2, 1) := by decide +kernel
theorem dX12_told_7 : decode cX12_told 7 = .ok (.iload_n 3, 1) := by decide +kernel
theorem dX12_told_8 : decode cX12_told 8 = .ok (.invokevirtual 170, 3) := by decide +kernel
theorem dX12_told_11 : decode cX12_told 11 = .ok (.ireturn, 1) := by decide +kernel
theorem dX12_errs_7 : decode cX12_errs 7 = .ok (.return_, 1) := by decide +kernel
theorem dX12_ends_0 : decode cX12_ends 0 = .ok (.aload_n 0, 1) := by decide +kernel
theorem dX12_ends_1 : decode cX12_ends 1 = .ok (.invokevirtual 139, 3) := by decide +kernel
theorem dX12_ends_4 : decode cX12_ends 4 = .ok (.ifCond .eq 16, 3) := by decide +kernel
theorem dX12_ends_20 : decode cX12_ends 20 = .ok (.aload_n 0, 1) := by decide +kernel
theorem dX12_ends_21 : decode cX12_ends 21 = .ok (.invokevirtual 139, 3) := by decide +kernel
theorem dX12_ends_24 : decode cX12_ends 24 = .ok (.ifCond .eq 7, 3) := by decide +kernel
theorem dX12_ends_31 : decode cX12_ends 31 = .ok (.return_, 1) := by decide +kernel
theorem dX12_readRow_0 : decode cX12_readRow 0 = .ok (.aload_n 0, 1) := by decide +kernel
theorem dX12_readRow_1 : decode cX12_readRow 1 = .ok (.ldc 173, 2) := by decide +kernel
theorem dX12_readRow_3 : decode cX12_readRow 3 = .ok (.invokevirtual 152, 3) := by decide +kernel
theorem dX12_readRow_6 : decode cX12_readRow 6 = .ok (.ifCond .eq 19, 3) := by decide +kernel
theorem dX12_readRow_25 : decode cX12_readRow 25 = .ok (.aload_n 0, 1) := by decide +kernel
theorem dX12_readRow_26 : decode cX12_readRow 26 = .ok (.ldc 173, 2) := by decide +kernel
theorem dX12_readRow_28 : decode cX12_readRow 28 = .ok (.invokevirtual 166, 3) := by decide +kernel
theorem dX12_readRow_31 : decode cX12_readRow 31 = .ok (.aload_n 0, 1) := by decide +kernel
theorem dX12_readRow_32 : decode cX12_readRow 32 = .ok (.getfield 108, 3) := by decide +kernel
theorem dX12_readRow_35 : decode cX12_readRow 35 = .ok (.aload_n 0, 1) := by decide +kernel
theorem dX12_readRow_36 : decode cX12_readRow 36 = .ok (.getfield 117, 3) := by decide +kernel
theorem dX12_readRow_39 : decode cX12_readRow 39 = .ok (.isub, 1) := by decide +kernel
theorem dX12_readRow_40 : decode cX12_readRow 40 = .ok (.istore_n 1, 1) := by decide +kernel
theorem dX12_readRow_41 : decode cX12_readRow 41 = .ok (.aload_n 0, 1) := by decide +kernel
theorem dX12_readRow_42 : decode cX12_readRow 42 = .ok (.getfield 120, 3) := by decide +kernel
theorem dX12_readRow_45 : decode cX12_readRow 45 = .ok (.iconst 1, 1) := by decide +kernel
theorem dX12_readRow_46 : decode cX12_readRow 46 = .ok (.if_icmp .ne 13, 3) := by decide +kernel
theorem dX12_readRow_59 : decode cX12_readRow 59 = .ok (.iconst 0, 1) := by decide +kernel
theorem dX12_readRow_60 : decode cX12_readRow 60 = .ok (.istore_n 2, 1) := by decide +kernel
theorem dX12_readRow_61 : decode cX12_readRow 61 = .ok (.bipush 16, 2) := by decide +kernel
theorem dX12_readRow_63 : decode cX12_readRow 63 = .ok (.bipush 13, 2) := by decide +kernel
theorem dX12_readRow_65 : decode cX12_readRow 65 = .ok (.aload_n 0, 1) := by decide +kernel
theorem dX12_readRow_66 : decode cX12_readRow 66 = .ok (.getfield 34, 3) := by decide +kernel
theorem dX12_readRow_69 : decode cX12_readRow 69 = .ok (.iconst 2, 1) := by decide +kernel
theorem dX12_readRow_70 : decode cX12_readRow 70 = .ok (.iaload, 1) := by decide +kernel
theorem dX12_readRow_71 : decode cX12_readRow 71 = .ok (.imul, 1) := by decide +kernel
theorem dX12_readRow_72 : decode cX12_readRow 72 = .ok (.iadd, 1) := by decide +kernel
theorem dX12_readRow_73 : decode cX12_readRow 73 = .ok (.istore_n 3, 1) := by decide +kernel
theorem dX12_readRow_74 : decode cX12_readRow 74 = .ok (.iconst 0, 1) := by decide +kernel
theorem dX12_readRow_75 : decode cX12_readRow 75 = .ok (.istore 4, 2) := by decide +kernel
theorem dX12_readRow_77 : decode cX12_readRow 77 = .ok (.iload 4, 2) := by decide +kernel
theorem dX12_readRow_79 : decode cX12_readRow 79 = .ok (.iload_n 1, 1) := by decide +kernel
theorem dX12_readRow_80 : decode cX12_readRow 80 = .ok (.if_icmp .ge 71, 3) := by decide +kernel
theorem dX12_readRow_151 : decode cX12_readRow 151 = .ok (.iload_n 2, 1) := by decide +kernel
theorem dX12_readRow_152 : decode cX12_readRow 152 = .ok (.ifCond .ne 8, 3) := by decide +kernel
theorem dX12_readRow_155 : decode cX12_readRow 155 = .ok (.aload_n 0, 1) := by decide +kernel
theorem dX12_readRow_156 : decode cX12_readRow 156 = .ok (.iconst 1, 1) := by decide +kernel
theorem dX12_readRow_157 : decode cX12_readRow 157 = .ok (.invokevirtual 162, 3) := by decide +kernel
theorem dX12_readRow_160 : decode cX12_readRow 160 = .ok (.aload_n 0, 1) := by decide +kernel
theorem dX12_readRow_161 : decode cX12_readRow 161 = .ok (.invokevirtual 139, 3) := by decide +kernel
theorem dX12_readRow_164 : decode cX12_readRow 164 = .ok (.ifCond .ne 4, 3) := by decide +kernel
theorem dX12_readRow_167 : decode cX12_readRow 167 = .ok (.return_, 1) := by decide +kernel
theorem dX12_pattern_0 : decode cX12_pattern 0 = .ok (.aload_n 0, 1) := by decide +kernel
theorem dX12_pattern_1 : decode cX12_pattern 1 = .ok (.invokevirtual 181, 3) := by decide +kernel
theorem dX12_pattern_4 : decode cX12_pattern 4 = .ok (.aload_n 0, 1) := by decide +kernel
theorem dX12_pattern_5 : decode cX12_pattern 5 = .ok (.iconst 0, 1) := by decide +kernel
theorem dX12_pattern_6 : decode cX12_pattern 6 = .ok (.bipush 120, 2) := by decide +kernel
theorem dX12_pattern_8 : decode cX12_pattern 8 = .ok (.invokevirtual 184, 3) := by decide +kernel
theorem dX12_pattern_11 : decode cX12_pattern 11 = .ok (.aload_n 0, 1) := by decide +kernel
theorem dX12_pattern_12 : decode cX12_pattern 12 = .ok (.invokevirtual 156, 3) := by decide +kernel
theorem dX12_pattern_15 : decode cX12_pattern 15 = .ok (.aload_n 0, 1) := by decide +kernel
theorem dX12_pattern_16 : decode cX12_pattern 16 = .ok (.getfield 34, 3) := by decide +kernel
theorem dX12_pattern_19 : decode cX12_pattern 19 = .ok (.iconst 1, 1) := by decide +kernel
theorem dX12_pattern_20 : decode cX12_pattern 20 = .ok (.aload_n 0, 1) := by decide +kernel
theorem dX12_pattern_21 : decode cX12_pattern 21 = .ok (.ldc 188, 2) := by decide +kernel
theorem dX12_pattern_23 : decode cX12_pattern 23 = .ok (.iconst 1, 1) := by decide +kernel
theorem dX12_pattern_24 : decode cX12_pattern 24 = .ok (.bipush 16, 2) := by decide +kernel
theorem dX12_pattern_26 : decode cX12_pattern 26 = .ok (.invokevirtual 189, 3) := by decide +kernel
theorem dX12_pattern_29 : decode cX12_pattern 29 = .ok (.iastore, 1) := by decide +kernel
theorem dX12_pattern_30 : decode cX12_pattern 30 = .ok (.aload_n 0, 1) := by decide +kernel
theorem dX12_pattern_31 : decode cX12_pattern 31 = .ok (.getfield 34, 3) := by decide +kernel
theorem dX12_pattern_34 : decode cX12_pattern 34 = .ok (.iconst 0, 1) := by decide +kernel
theorem dX12_pattern_35 : decode cX12_pattern 35 = .ok (.aload_n 0, 1) := by decide +kernel
theorem dX12_pattern_36 : decode cX12_pattern 36 = .ok (.ldc 193, 2) := by decide +kernel
theorem dX12_pattern_38 : decode cX12_pattern 38 = .ok (.iconst 1, 1) := by decide +kernel
theorem dX12_pattern_39 : decode cX12_pattern 39 = .ok (.bipush 16, 2) := by decide +kernel
theorem dX12_pattern_41 : decode cX12_pattern 41 = .ok (.invokevirtual 189, 3) := by decide +kernel
theorem dX12_pattern_44 : decode cX12_pattern 44 = .ok (.iastore, 1) := by decide +kernel
theorem dX12_pattern_45 : decode cX12_pattern 45 = .ok (.aload_n 0, 1) := by decide +kernel
theorem dX12_pattern_46 : decode cX12_pattern 46 = .ok (.invokevirtual 178, 3) := by decide +kernel
theorem dX12_pattern_49 : decode cX12_pattern 49 = .ok (.aload_n 0, 1) := by decide +kernel
theorem dX12_pattern_50 : decode cX12_pattern 50 = .ok (.invokevirtual 194, 3) := by decide +kernel
theorem dX12_pattern_53 : decode cX12_pattern 53 = .ok (.aload_n 0, 1) := by decide +kernel
theorem dX12_pattern_54 : decode cX12_pattern 54 = .ok (.invokevirtual 139, 3) := by decide +kernel
theorem dX12_pattern_57 : decode cX12_pattern 57 = .ok (.ifCond .eq 10, 3) := by decide +kernel
theorem dX12_pattern_67 : decode cX12_pattern 67 = .ok (.aload_n 0, 1) := by decide +kernel
theorem dX12_pattern_68 : decode cX12_pattern 68 = .ok (.invokevirtual 139, 3) := by decide +kernel
theorem dX12_pattern_71 : decode cX12_pattern 71 = .ok (.ifCond .ne 6, 3) := by decide +kernel
theorem dX12_pattern_74 : decode cX12_pattern 74 = .ok (.bipush (-4), 2) := by decide +kernel
theorem dX12_pattern_76 : decode cX12_pattern 76 = .ok (.ireturn, 1) := by decide +kernel
theorem dX12_endsAll_0 : decode cX12_endsAll 0 = .ok (.aload_n 0, 1) := by decide +kernel
theorem dX12_endsAll_1 : decode cX12_endsAll 1 = .ok (.invokevirtual 139, 3) := by decide +kernel
theorem dX12_endsAll_4 : decode cX12_endsAll 4 = .ok (.ifCond .eq 15, 3) := by decide +kernel
theorem dX12_endsAll_19 : decode cX12_endsAll 19 = .ok (.return_, 1) := by decide +kernel
theorem dX12_hand_0 : decode cX12_hand 0 = .ok (.aload_n 0, 1) := by decide +kernel
theorem dX12_hand_1 : decode cX12_hand 1 = .ok (.invokevirtual 181, 3) := by decide +kernel
theorem dX12_hand_4 : decode cX12_hand 4 = .ok (.aload_n 0, 1) := by decide +kernel
theorem dX12_hand_5 : decode cX12_hand 5 = .ok (.invokevirtual 156, 3) := by decide +kernel
theorem dX12_hand_8 : decode cX12_hand 8 = .ok (.aload_n 0, 1) := by decide +kernel
theorem dX12_hand_9 : decode cX12_hand 9 = .ok (.ldc 210, 2) := by decide +kernel
theorem dX12_hand_11 : decode cX12_hand 11 = .ok (.invokevirtual 166, 3) := by decide +kernel
theorem dX12_hand_14 : decode cX12_hand 14 = .ok (.aload_n 0, 1) := by decide +kernel
theorem dX12_hand_15 : decode cX12_hand 15 = .ok (.getfield 34, 3) := by decide +kernel
theorem dX12_hand_18 : decode cX12_hand 18 = .ok (.bipush 10, 2) := by decide +kernel
theorem dX12_hand_20 : decode cX12_hand 20 = .ok (.aload_n 0, 1) := by decide +kernel
theorem dX12_hand_21 : decode cX12_hand 21 = .ok (.ldc 212, 2) := by decide +kernel
theorem dX12_hand_23 : decode cX12_hand 23 = .ok (.iconst 0, 1) := by decide +kernel
theorem dX12_hand_24 : decode cX12_hand 24 = .ok (.bipush 100, 2) := by decide +kernel
theorem dX12_hand_26 : decode cX12_hand 26 = .ok (.invokevirtual 189, 3) := by decide +kernel
theorem dX12_hand_29 : decode cX12_hand 29 = .ok (.iastore, 1) := by decide +kernel
theorem dX12_hand_30 : decode cX12_hand 30 = .ok (.aload_n 0, 1) := by decide +kernel
theorem dX12_hand_31 : decode cX12_hand 31 = .ok (.getfield 34, 3) := by decide +kernel
theorem dX12_hand_34 : decode cX12_hand 34 = .ok (.bipush 11, 2) := by decide +kernel
theorem dX12_hand_36 : decode cX12_hand 36 = .ok (.aload_n 0, 1) := by decide +kernel
theorem dX12_hand_37 : decode cX12_hand 37 = .ok (.ldc 214, 2) := by decide +kernel
theorem dX12_hand_39 : decode cX12_hand 39 = .ok (.iconst 0, 1) := by decide +kernel
theorem dX12_hand_40 : decode cX12_hand 40 = .ok (.bipush 100, 2) := by decide +kernel
theorem dX12_hand_42 : decode cX12_hand 42 = .ok (.invokevirtual 189, 3) := by decide +kernel
theorem dX12_hand_45 : decode cX12_hand 45 = .ok (.iastore, 1) := by decide +kernel
theorem dX12_hand_46 : decode cX12_hand 46 = .ok (.aload_n 0, 1) := by decide +kernel
theorem dX12_hand_47 : decode cX12_hand 47 = .ok (.getfield 34, 3) := by decide +kernel
theorem dX12_hand_50 : decode cX12_hand 50 = .ok (.bipush 12, 2) := by decide +kernel
theorem dX12_hand_52 : decode cX12_hand 52 = .ok (.aload_n 0, 1) := by decide +kernel
theorem dX12_hand_53 : decode cX12_hand 53 = .ok (.ldc 216, 2) := by decide +kernel
theorem dX12_hand_55 : decode cX12_hand 55 = .ok (.iconst 0, 1) := by decide +kernel
theorem dX12_hand_56 : decode cX12_hand 56 = .ok (.bipush 100, 2) := by decide +kernel
theorem dX12_hand_58 : decode cX12_hand 58 = .ok (.invokevirtual 189, 3) := by decide +kernel
theorem dX12_hand_61 : decode cX12_hand 61 = .ok (.iastore, 1) := by decide +kernel
theorem dX12_hand_62 : decode cX12_hand 62 = .ok (.aload_n 0, 1) := by decide +kernel
theorem dX12_hand_63 : decode cX12_hand 63 = .ok (.invokevirtual 178, 3) := by decide +kernel
theorem dX12_hand_66 : decode cX12_hand 66 = .ok (.aload_n 0, 1) := by decide +kernel
theorem dX12_hand_67 : decode cX12_hand 67 = .ok (.invokevirtual 218, 3) := by decide +kernel
theorem dX12_hand_70 : decode cX12_hand 70 = .ok (.aload_n 0, 1) := by decide +kernel
theorem dX12_hand_71 : decode cX12_hand 71 = .ok (.invokevirtual 139, 3) := by decide +kernel
theorem dX12_hand_74 : decode cX12_hand 74 = .ok (.ifCond .ne 6, 3) := by decide +kernel
theorem dX12_hand_77 : decode cX12_hand 77 = .ok (.bipush (-4), 2) := by decide +kernel
theorem dX12_hand_79 : decode cX12_hand 79 = .ok (.ireturn, 1) := by decide +kernel
