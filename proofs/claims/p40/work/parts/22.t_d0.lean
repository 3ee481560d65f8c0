theorem dX7_hasRoomFor_0 : decode cX7_hasRoomFor 0 = .ok (.aload_n 0, 1) := by decide +kernel
theorem dX7_hasRoomFor_1 : decode cX7_hasRoomFor 1 = .ok (.getfield 19, 3) := by decide +kernel
theorem dX7_hasRoomFor_4 : decode cX7_hasRoomFor 4 = .ok (.iload_n 1, 1) := by decide +kernel
theorem dX7_hasRoomFor_5 : decode cX7_hasRoomFor 5 = .ok (.iadd, 1) := by decide +kernel
theorem dX7_hasRoomFor_6 : decode cX7_hasRoomFor 6 = .ok (.sipush 600, 3) := by decide +kernel
theorem dX7_hasRoomFor_9 : decode cX7_hasRoomFor 9 = .ok (.if_icmp .gt 7, 3) := by decide +kernel
theorem dX7_hasRoomFor_16 : decode cX7_hasRoomFor 16 = .ok (.iconst 0, 1) := by decide +kernel
theorem dX7_hasRoomFor_17 : decode cX7_hasRoomFor 17 = .ok (.ireturn, 1) := by decide +kernel
theorem dX7_hasRoomFor_12 : decode cX7_hasRoomFor 12 = .ok (.iconst 1, 1) := by decide +kernel
theorem dX7_hasRoomFor_13 : decode cX7_hasRoomFor 13 = .ok (.goto 4, 3) := by decide +kernel
theorem dX7_addBytesOf_0 : decode cX7_addBytesOf 0 = .ok (.bipush 24, 2) := by decide +kernel
theorem dX7_addBytesOf_2 : decode cX7_addBytesOf 2 = .ok (.istore_n 2, 1) := by decide +kernel
theorem dX7_addBytesOf_3 : decode cX7_addBytesOf 3 = .ok (.iload_n 2, 1) := by decide +kernel
theorem dX7_addBytesOf_4 : decode cX7_addBytesOf 4 = .ok (.ifCond .lt 47, 3) := by decide +kernel
theorem dX7_addBytesOf_51 : decode cX7_addBytesOf 51 = .ok (.return_, 1) := by decide +kernel
theorem dX7_addBytesOf_7 : decode cX7_addBytesOf 7 = .ok (.aload_n 0, 1) := by decide +kernel
theorem dX7_addBytesOf_8 : decode cX7_addBytesOf 8 = .ok (.getfield 19, 3) := by decide +kernel
theorem dX7_addBytesOf_11 : decode cX7_addBytesOf 11 = .ok (.aload_n 0, 1) := by decide +kernel
theorem dX7_addBytesOf_12 : decode cX7_addBytesOf 12 = .ok (.getfield 9, 3) := by decide +kernel
theorem dX7_addBytesOf_15 : decode cX7_addBytesOf 15 = .ok (.arraylength, 1) := by decide +kernel
theorem dX7_addBytesOf_16 : decode cX7_addBytesOf 16 = .ok (.if_icmp .ge 29, 3) := by decide +kernel
theorem dX7_addBytesOf_45 : decode cX7_addBytesOf 45 = .ok (.iinc 2 (-8), 3) := by decide +kernel
theorem dX7_addBytesOf_48 : decode cX7_addBytesOf 48 = .ok (.goto (-45), 3) := by decide +kernel
theorem dX7_addBytesOf_19 : decode cX7_addBytesOf 19 = .ok (.aload_n 0, 1) := by decide +kernel
theorem dX7_addBytesOf_20 : decode cX7_addBytesOf 20 = .ok (.getfield 9, 3) := by decide +kernel
theorem dX7_addBytesOf_23 : decode cX7_addBytesOf 23 = .ok (.aload_n 0, 1) := by decide +kernel
theorem dX7_addBytesOf_24 : decode cX7_addBytesOf 24 = .ok (.getfield 19, 3) := by decide +kernel
theorem dX7_addBytesOf_27 : decode cX7_addBytesOf 27 = .ok (.iload_n 1, 1) := by decide +kernel
theorem dX7_addBytesOf_28 : decode cX7_addBytesOf 28 = .ok (.iload_n 2, 1) := by decide +kernel
theorem dX7_addBytesOf_29 : decode cX7_addBytesOf 29 = .ok (.iushr, 1) := by decide +kernel
theorem dX7_addBytesOf_30 : decode cX7_addBytesOf 30 = .ok (.sipush 255, 3) := by decide +kernel
theorem dX7_addBytesOf_33 : decode cX7_addBytesOf 33 = .ok (.iand, 1) := by decide +kernel
theorem dX7_addBytesOf_34 : decode cX7_addBytesOf 34 = .ok (.iastore, 1) := by decide +kernel
theorem dX7_addBytesOf_35 : decode cX7_addBytesOf 35 = .ok (.aload_n 0, 1) := by decide +kernel
theorem dX7_addBytesOf_36 : decode cX7_addBytesOf 36 = .ok (.dup, 1) := by decide +kernel
theorem dX7_addBytesOf_37 : decode cX7_addBytesOf 37 = .ok (.getfield 19, 3) := by decide +kernel
theorem dX7_addBytesOf_40 : decode cX7_addBytesOf 40 = .ok (.iconst 1, 1) := by decide +kernel
theorem dX7_addBytesOf_41 : decode cX7_addBytesOf 41 = .ok (.iadd, 1) := by decide +kernel
theorem dX7_addBytesOf_42 : decode cX7_addBytesOf 42 = .ok (.putfield 19, 3) := by decide +kernel
theorem dX7_empty_0 : decode cX7_empty 0 = .ok (.aload_n 0, 1) := by decide +kernel
theorem dX7_empty_1 : decode cX7_empty 1 = .ok (.iconst 0, 1) := by decide +kernel
theorem dX7_empty_2 : decode cX7_empty 2 = .ok (.putfield 19, 3) := by decide +kernel
theorem dX7_empty_5 : decode cX7_empty 5 = .ok (.return_, 1) := by decide +kernel
theorem dX7_byteAt_0 : decode cX7_byteAt 0 = .ok (.iload_n 1, 1) := by decide +kernel
theorem dX7_byteAt_1 : decode cX7_byteAt 1 = .ok (.ifCond .lt 29, 3) := by decide +kernel
theorem dX7_byteAt_30 : decode cX7_byteAt 30 = .ok (.iconst (-1), 1) := by decide +kernel
theorem dX7_byteAt_31 : decode cX7_byteAt 31 = .ok (.ireturn, 1) := by decide +kernel
theorem dX7_byteAt_4 : decode cX7_byteAt 4 = .ok (.iload_n 1, 1) := by decide +kernel
theorem dX7_byteAt_5 : decode cX7_byteAt 5 = .ok (.aload_n 0, 1) := by decide +kernel
theorem dX7_byteAt_6 : decode cX7_byteAt 6 = .ok (.getfield 19, 3) := by decide +kernel
theorem dX7_byteAt_9 : decode cX7_byteAt 9 = .ok (.if_icmp .ge 21, 3) := by decide +kernel
theorem dX7_byteAt_12 : decode cX7_byteAt 12 = .ok (.iload_n 1, 1) := by decide +kernel
theorem dX7_byteAt_13 : decode cX7_byteAt 13 = .ok (.aload_n 0, 1) := by decide +kernel
theorem dX7_byteAt_14 : decode cX7_byteAt 14 = .ok (.getfield 9, 3) := by decide +kernel
theorem dX7_byteAt_17 : decode cX7_byteAt 17 = .ok (.arraylength, 1) := by decide +kernel
theorem dX7_byteAt_18 : decode cX7_byteAt 18 = .ok (.if_icmp .ge 12, 3) := by decide +kernel
theorem dX7_byteAt_21 : decode cX7_byteAt 21 = .ok (.aload_n 0, 1) := by decide +kernel
theorem dX7_byteAt_22 : decode cX7_byteAt 22 = .ok (.getfield 9, 3) := by decide +kernel
theorem dX7_byteAt_25 : decode cX7_byteAt 25 = .ok (.iload_n 1, 1) := by decide +kernel
theorem dX7_byteAt_26 : decode cX7_byteAt 26 = .ok (.iaload, 1) := by decide +kernel
theorem dX7_byteAt_27 : decode cX7_byteAt 27 = .ok (.goto 4, 3) := by decide +kernel
theorem dX7_isFine_0 : decode cX7_isFine 0 = .ok (.aload_n 0, 1) := by decide +kernel
theorem dX7_isFine_1 : decode cX7_isFine 1 = .ok (.getfield 22, 3) := by decide +kernel
theorem dX7_isFine_4 : decode cX7_isFine 4 = .ok (.ifCond .ne 7, 3) := by decide +kernel
theorem dX7_isFine_11 : decode cX7_isFine 11 = .ok (.iconst 0, 1) := by decide +kernel
theorem dX7_isFine_12 : decode cX7_isFine 12 = .ok (.ireturn, 1) := by decide +kernel
theorem dX7_isFine_7 : decode cX7_isFine 7 = .ok (.iconst 1, 1) := by decide +kernel
theorem dX7_isFine_8 : decode cX7_isFine 8 = .ok (.goto 4, 3) := by decide +kernel
theorem dX7_isBlank_0 : decode cX7_isBlank 0 = .ok (.iload_n 0, 1) := by decide +kernel
theorem dX7_isBlank_1 : decode cX7_isBlank 1 = .ok (.bipush 32, 2) := by decide +kernel
theorem dX7_isBlank_3 : decode cX7_isBlank 3 = .ok (.if_icmp .eq 9, 3) := by decide +kernel
theorem dX7_isBlank_12 : decode cX7_isBlank 12 = .ok (.iconst 1, 1) := by decide +kernel
theorem dX7_isBlank_13 : decode cX7_isBlank 13 = .ok (.goto 4, 3) := by decide +kernel
theorem dX7_isBlank_17 : decode cX7_isBlank 17 = .ok (.ireturn, 1) := by decide +kernel
theorem dX7_isBlank_6 : decode cX7_isBlank 6 = .ok (.iload_n 0, 1) := by decide +kernel
theorem dX7_isBlank_7 : decode cX7_isBlank 7 = .ok (.bipush 10, 2) := by decide +kernel
theorem dX7_isBlank_9 : decode cX7_isBlank 9 = .ok (.if_icmp .ne 7, 3) := by decide +kernel
theorem dX7_isBlank_16 : decode cX7_isBlank 16 = .ok (.iconst 0, 1) := by decide +kernel
theorem dX7_kindOf_0 : decode cX7_kindOf 0 = .ok (.iload_n 0, 1) := by decide +kernel
theorem dX7_kindOf_1 : decode cX7_kindOf 1 = .ok (.bipush 97, 2) := by decide +kernel
theorem dX7_kindOf_3 : decode cX7_kindOf 3 = .ok (.if_icmp .lt 11, 3) := by decide +kernel
theorem dX7_kindOf_14 : decode cX7_kindOf 14 = .ok (.iload_n 0, 1) := by decide +kernel
theorem dX7_kindOf_15 : decode cX7_kindOf 15 = .ok (.bipush 48, 2) := by decide +kernel
theorem dX7_kindOf_17 : decode cX7_kindOf 17 = .ok (.if_icmp .lt 11, 3) := by decide +kernel
theorem dX7_kindOf_28 : decode cX7_kindOf 28 = .ok (.iload_n 0, 1) := by decide +kernel
theorem dX7_kindOf_29 : decode cX7_kindOf 29 = .ok (.bipush 59, 2) := by decide +kernel
theorem dX7_kindOf_31 : decode cX7_kindOf 31 = .ok (.if_icmp .ne 5, 3) := by decide +kernel
theorem dX7_kindOf_36 : decode cX7_kindOf 36 = .ok (.iload_n 0, 1) := by decide +kernel
theorem dX7_kindOf_37 : decode cX7_kindOf 37 = .ok (.iconst (-1), 1) := by decide +kernel
theorem dX7_kindOf_38 : decode cX7_kindOf 38 = .ok (.if_icmp .ne 7, 3) := by decide +kernel
theorem dX7_kindOf_45 : decode cX7_kindOf 45 = .ok (.iconst 4, 1) := by decide +kernel
theorem dX7_kindOf_46 : decode cX7_kindOf 46 = .ok (.ireturn, 1) := by decide +kernel
theorem dX7_kindOf_41 : decode cX7_kindOf 41 = .ok (.iconst 0, 1) := by decide +kernel
theorem dX7_kindOf_42 : decode cX7_kindOf 42 = .ok (.goto 4, 3) := by decide +kernel
theorem dX7_kindOf_20 : decode cX7_kindOf 20 = .ok (.iload_n 0, 1) := by decide +kernel
theorem dX7_kindOf_21 : decode cX7_kindOf 21 = .ok (.bipush 57, 2) := by decide +kernel
theorem dX7_kindOf_23 : decode cX7_kindOf 23 = .ok (.if_icmp .gt 5, 3) := by decide +kernel
theorem dX7_kindOf_34 : decode cX7_kindOf 34 = .ok (.iconst 3, 1) := by decide +kernel
theorem dX7_kindOf_35 : decode cX7_kindOf 35 = .ok (.ireturn, 1) := by decide +kernel
theorem dX7_kindOf_26 : decode cX7_kindOf 26 = .ok (.iconst 2, 1) := by decide +kernel
theorem dX7_kindOf_27 : decode cX7_kindOf 27 = .ok (.ireturn, 1) := by decide +kernel
theorem dX7_kindOf_6 : decode cX7_kindOf 6 = .ok (.iload_n 0, 1) := by decide +kernel
theorem dX7_kindOf_7 : decode cX7_kindOf 7 = .ok (.bipush 122, 2) := by decide +kernel
theorem dX7_kindOf_9 : decode cX7_kindOf 9 = .ok (.if_icmp .gt 5, 3) := by decide +kernel
theorem dX7_kindOf_12 : decode cX7_kindOf 12 = .ok (.iconst 1, 1) := by decide +kernel
theorem dX7_kindOf_13 : decode cX7_kindOf 13 = .ok (.ireturn, 1) := by decide +kernel
theorem dX7_advance_0 : decode cX7_advance 0 = .ok (.aload_n 0, 1) := by decide +kernel
theorem dX7_advance_1 : decode cX7_advance 1 = .ok (.invokevirtual 31, 3) := by decide +kernel
theorem dX7_advance_4 : decode cX7_advance 4 = .ok (.ifCond .ne 4, 3) := by decide +kernel
theorem dX7_advance_8 : decode cX7_advance 8 = .ok (.aload_n 0, 1) := by decide +kernel
theorem dX7_advance_9 : decode cX7_advance 9 = .ok (.aload_n 0, 1) := by decide +kernel
theorem dX7_advance_10 : decode cX7_advance 10 = .ok (.getfield 25, 3) := by decide +kernel
theorem dX7_advance_13 : decode cX7_advance 13 = .ok (.putfield 38, 3) := by decide +kernel
theorem dX7_advance_16 : decode cX7_advance 16 = .ok (.aload_n 0, 1) := by decide +kernel
theorem dX7_advance_17 : decode cX7_advance 17 = .ok (.getfield 38, 3) := by decide +kernel
theorem dX7_advance_20 : decode cX7_advance 20 = .ok (.aload_n 0, 1) := by decide +kernel
theorem dX7_advance_21 : decode cX7_advance 21 = .ok (.getfield 19, 3) := by decide +kernel
theorem dX7_advance_54 : decode cX7_advance 54 = .ok (.aload_n 0, 1) := by decide +kernel
theorem dX7_advance_55 : decode cX7_advance 55 = .ok (.aload_n 0, 1) := by decide +kernel
theorem dX7_advance_56 : decode cX7_advance 56 = .ok (.aload_n 0, 1) := by decide +kernel
theorem dX7_advance_57 : decode cX7_advance 57 = .ok (.getfield 38, 3) := by decide +kernel
theorem dX7_advance_60 : decode cX7_advance 60 = .ok (.invokevirtual 41, 3) := by decide +kernel
theorem dX7_advance_63 : decode cX7_advance 63 = .ok (.invokestatic 49, 3) := by decide +kernel
theorem dX7_advance_66 : decode cX7_advance 66 = .ok (.putfield 35, 3) := by decide +kernel
theorem dX7_advance_69 : decode cX7_advance 69 = .ok (.aload_n 0, 1) := by decide +kernel
theorem dX7_advance_70 : decode cX7_advance 70 = .ok (.aload_n 0, 1) := by decide +kernel
theorem dX7_advance_71 : decode cX7_advance 71 = .ok (.getfield 38, 3) := by decide +kernel
theorem dX7_advance_74 : decode cX7_advance 74 = .ok (.iconst 1, 1) := by decide +kernel
theorem dX7_advance_75 : decode cX7_advance 75 = .ok (.iadd, 1) := by decide +kernel
theorem dX7_advance_76 : decode cX7_advance 76 = .ok (.aload_n 0, 1) := by decide +kernel
theorem dX7_advance_77 : decode cX7_advance 77 = .ok (.getfield 19, 3) := by decide +kernel
theorem dX7_advance_80 : decode cX7_advance 80 = .ok (.invokestatic 52, 3) := by decide +kernel
theorem dX7_advance_83 : decode cX7_advance 83 = .ok (.putfield 25, 3) := by decide +kernel
theorem dX7_advance_86 : decode cX7_advance 86 = .ok (.aload_n 0, 1) := by decide +kernel
theorem dX7_advance_87 : decode cX7_advance 87 = .ok (.getfield 35, 3) := by decide +kernel
theorem dX7_advance_90 : decode cX7_advance 90 = .ok (.iconst 1, 1) := by decide +kernel
theorem dX7_advance_107 : decode cX7_advance 107 = .ok (.istore_n 1, 1) := by decide +kernel
theorem dX7_advance_108 : decode cX7_advance 108 = .ok (.iload_n 1, 1) := by decide +kernel
theorem dX7_advance_109 : decode cX7_advance 109 = .ok (.ifCond .eq 45, 3) := by decide +kernel
theorem dX7_advance_154 : decode cX7_advance 154 = .ok (.return_, 1) := by decide +kernel
theorem dX7_advance_112 : decode cX7_advance 112 = .ok (.aload_n 0, 1) := by decide +kernel
theorem dX7_advance_113 : decode cX7_advance 113 = .ok (.getfield 25, 3) := by decide +kernel
theorem dX7_advance_116 : decode cX7_advance 116 = .ok (.aload_n 0, 1) := by decide +kernel
theorem dX7_advance_117 : decode cX7_advance 117 = .ok (.getfield 19, 3) := by decide +kernel
theorem dX7_advance_120 : decode cX7_advance 120 = .ok (.if_icmp .ge 34, 3) := by decide +kernel
theorem dX7_advance_123 : decode cX7_advance 123 = .ok (.aload_n 0, 1) := by decide +kernel
theorem dX7_advance_124 : decode cX7_advance 124 = .ok (.aload_n 0, 1) := by decide +kernel
theorem dX7_advance_125 : decode cX7_advance 125 = .ok (.getfield 25, 3) := by decide +kernel
theorem dX7_advance_128 : decode cX7_advance 128 = .ok (.invokevirtual 41, 3) := by decide +kernel
theorem dX7_advance_131 : decode cX7_advance 131 = .ok (.invokestatic 49, 3) := by decide +kernel
theorem dX7_advance_134 : decode cX7_advance 134 = .ok (.aload_n 0, 1) := by decide +kernel
theorem dX7_advance_135 : decode cX7_advance 135 = .ok (.getfield 35, 3) := by decide +kernel
theorem dX7_advance_138 : decode cX7_advance 138 = .ok (.if_icmp .ne 16, 3) := by decide +kernel
theorem dX7_advance_141 : decode cX7_advance 141 = .ok (.aload_n 0, 1) := by decide +kernel
theorem dX7_advance_142 : decode cX7_advance 142 = .ok (.dup, 1) := by decide +kernel
theorem dX7_advance_143 : decode cX7_advance 143 = .ok (.getfield 25, 3) := by decide +kernel
theorem dX7_advance_146 : decode cX7_advance 146 = .ok (.iconst 1, 1) := by decide +kernel
theorem dX7_advance_147 : decode cX7_advance 147 = .ok (.iadd, 1) := by decide +kernel
theorem dX7_advance_148 : decode cX7_advance 148 = .ok (.putfield 25, 3) := by decide +kernel
theorem dX7_advance_151 : decode cX7_advance 151 = .ok (.goto (-43), 3) := by decide +kernel
theorem dX7_advance_91 : decode cX7_advance 91 = .ok (.if_icmp .eq 11, 3) := by decide +kernel
theorem dX7_advance_102 : decode cX7_advance 102 = .ok (.iconst 1, 1) := by decide +kernel
theorem dX7_advance_103 : decode cX7_advance 103 = .ok (.goto 4, 3) := by decide +kernel
theorem dX7_advance_94 : decode cX7_advance 94 = .ok (.aload_n 0, 1) := by decide +kernel
theorem dX7_advance_95 : decode cX7_advance 95 = .ok (.getfield 35, 3) := by decide +kernel
theorem dX7_advance_98 : decode cX7_advance 98 = .ok (.iconst 2, 1) := by decide +kernel
theorem dX7_advance_99 : decode cX7_advance 99 = .ok (.if_icmp .ne 7, 3) := by decide +kernel
theorem dX7_advance_106 : decode cX7_advance 106 = .ok (.iconst 0, 1) := by decide +kernel
theorem dX7_advance_24 : decode cX7_advance 24 = .ok (.if_icmp .ge 30, 3) := by decide +kernel
theorem dX7_advance_27 : decode cX7_advance 27 = .ok (.aload_n 0, 1) := by decide +kernel
theorem dX7_advance_28 : decode cX7_advance 28 = .ok (.aload_n 0, 1) := by decide +kernel
theorem dX7_advance_29 : decode cX7_advance 29 = .ok (.getfield 38, 3) := by decide +kernel
theorem dX7_advance_32 : decode cX7_advance 32 = .ok (.invokevirtual 41, 3) := by decide +kernel
theorem dX7_advance_35 : decode cX7_advance 35 = .ok (.invokestatic 45, 3) := by decide +kernel
theorem dX7_advance_38 : decode cX7_advance 38 = .ok (.ifCond .eq 16, 3) := by decide +kernel
theorem dX7_advance_41 : decode cX7_advance 41 = .ok (.aload_n 0, 1) := by decide +kernel
theorem dX7_advance_42 : decode cX7_advance 42 = .ok (.dup, 1) := by decide +kernel
theorem dX7_advance_43 : decode cX7_advance 43 = .ok (.getfield 38, 3) := by decide +kernel
theorem dX7_advance_46 : decode cX7_advance 46 = .ok (.iconst 1, 1) := by decide +kernel
theorem dX7_advance_47 : decode cX7_advance 47 = .ok (.iadd, 1) := by decide +kernel
theorem dX7_advance_48 : decode cX7_advance 48 = .ok (.putfield 38, 3) := by decide +kernel
theorem dX7_advance_51 : decode cX7_advance 51 = .ok (.goto (-35), 3) := by decide +kernel
theorem dX7_advance_7 : decode cX7_advance 7 = .ok (.return_, 1) := by decide +kernel
theorem dX7_start_0 : decode cX7_start 0 = .ok (.aload_n 0, 1) := by decide +kernel
theorem dX7_start_1 : decode cX7_start 1 = .ok (.iconst 0, 1) := by decide +kernel
theorem dX7_start_2 : decode cX7_start 2 = .ok (.putfield 22, 3) := by decide +kernel
theorem dX7_start_5 : decode cX7_start 5 = .ok (.aload_n 0, 1) := by decide +kernel
theorem dX7_start_6 : decode cX7_start 6 = .ok (.iconst (-1), 1) := by decide +kernel
theorem dX7_start_7 : decode cX7_start 7 = .ok (.putfield 15, 3) := by decide +kernel
theorem dX7_start_10 : decode cX7_start 10 = .ok (.aload_n 0, 1) := by decide +kernel
theorem dX7_start_11 : decode cX7_start 11 = .ok (.iconst 0, 1) := by decide +kernel
theorem dX7_start_12 : decode cX7_start 12 = .ok (.putfield 25, 3) := by decide +kernel
theorem dX7_start_15 : decode cX7_start 15 = .ok (.aload_n 0, 1) := by decide +kernel
theorem dX7_start_16 : decode cX7_start 16 = .ok (.invokevirtual 28, 3) := by decide +kernel
theorem dX7_start_19 : decode cX7_start 19 = .ok (.return_, 1) := by decide +kernel
theorem dX7_goesOn_0 : decode cX7_goesOn 0 = .ok (.aload_n 0, 1) := by decide +kernel
theorem dX7_goesOn_1 : decode cX7_goesOn 1 = .ok (.invokevirtual 31, 3) := by decide +kernel
theorem dX7_goesOn_4 : decode cX7_goesOn 4 = .ok (.ifCond .eq 14, 3) := by decide +kernel
theorem dX7_goesOn_18 : decode cX7_goesOn 18 = .ok (.iconst 0, 1) := by decide +kernel
theorem dX7_goesOn_19 : decode cX7_goesOn 19 = .ok (.ireturn, 1) := by decide +kernel
theorem dX7_goesOn_7 : decode cX7_goesOn 7 = .ok (.aload_n 0, 1) := by decide +kernel
theorem dX7_goesOn_8 : decode cX7_goesOn 8 = .ok (.getfield 35, 3) := by decide +kernel
theorem dX7_goesOn_11 : decode cX7_goesOn 11 = .ok (.ifCond .eq 7, 3) := by decide +kernel
theorem dX7_goesOn_14 : decode cX7_goesOn 14 = .ok (.iconst 1, 1) := by decide +kernel
theorem dX7_goesOn_15 : decode cX7_goesOn 15 = .ok (.goto 4, 3) := by decide +kernel
theorem dX7_complain_0 : decode cX7_complain 0 = .ok (.aload_n 0, 1) := by decide +kernel
theorem dX7_complain_1 : decode cX7_complain 1 = .ok (.invokevirtual 31, 3) := by decide +kernel
theorem dX7_complain_4 : decode cX7_complain 4 = .ok (.ifCond .eq 21, 3) := by decide +kernel
theorem dX7_complain_25 : decode cX7_complain 25 = .ok (.return_, 1) := by decide +kernel
theorem dX7_complain_7 : decode cX7_complain 7 = .ok (.aload_n 0, 1) := by decide +kernel
theorem dX7_complain_8 : decode cX7_complain 8 = .ok (.iload_n 1, 1) := by decide +kernel
theorem dX7_complain_9 : decode cX7_complain 9 = .ok (.putfield 22, 3) := by decide +kernel
theorem dX7_complain_12 : decode cX7_complain 12 = .ok (.aload_n 0, 1) := by decide +kernel
theorem dX7_complain_13 : decode cX7_complain 13 = .ok (.aload_n 0, 1) := by decide +kernel
theorem dX7_complain_14 : decode cX7_complain 14 = .ok (.getfield 38, 3) := by decide +kernel
theorem dX7_complain_17 : decode cX7_complain 17 = .ok (.putfield 15, 3) := by decide +kernel
theorem dX7_complain_20 : decode cX7_complain 20 = .ok (.aload_n 0, 1) := by decide +kernel
theorem dX7_complain_21 : decode cX7_complain 21 = .ok (.iconst 4, 1) := by decide +kernel
theorem dX7_complain_22 : decode cX7_complain 22 = .ok (.putfield 35, 3) := by decide +kernel
theorem dX7_isNumber_0 : decode cX7_isNumber 0 = .ok (.aload_n 0, 1) := by decide +kernel
theorem dX7_isNumber_1 : decode cX7_isNumber 1 = .ok (.getfield 35, 3) := by decide +kernel
theorem dX7_isNumber_4 : decode cX7_isNumber 4 = .ok (.iconst 2, 1) := by decide +kernel
theorem dX7_isNumber_5 : decode cX7_isNumber 5 = .ok (.if_icmp .ne 7, 3) := by decide +kernel
theorem dX7_isNumber_12 : decode cX7_isNumber 12 = .ok (.iconst 0, 1) := by decide +kernel
theorem dX7_isNumber_13 : decode cX7_isNumber 13 = .ok (.ireturn, 1) := by decide +kernel
theorem dX7_isNumber_8 : decode cX7_isNumber 8 = .ok (.iconst 1, 1) := by decide +kernel
theorem dX7_isNumber_9 : decode cX7_isNumber 9 = .ok (.goto 4, 3) := by decide +kernel
theorem dX7_numberTold_0 : decode cX7_numberTold 0 = .ok (.iconst 0, 1) := by decide +kernel
theorem dX7_numberTold_1 : decode cX7_numberTold 1 = .ok (.istore_n 1, 1) := by decide +kernel
theorem dX7_numberTold_2 : decode cX7_numberTold 2 = .ok (.aload_n 0, 1) := by decide +kernel
theorem dX7_numberTold_3 : decode cX7_numberTold 3 = .ok (.getfield 38, 3) := by decide +kernel
theorem dX7_numberTold_6 : decode cX7_numberTold 6 = .ok (.istore_n 2, 1) := by decide +kernel
theorem dX7_numberTold_7 : decode cX7_numberTold 7 = .ok (.iload_n 2, 1) := by decide +kernel
theorem dX7_numberTold_8 : decode cX7_numberTold 8 = .ok (.aload_n 0, 1) := by decide +kernel
theorem dX7_numberTold_9 : decode cX7_numberTold 9 = .ok (.getfield 25, 3) := by decide +kernel
theorem dX7_numberTold_12 : decode cX7_numberTold 12 = .ok (.if_icmp .ge 29, 3) := by decide +kernel
theorem dX7_numberTold_41 : decode cX7_numberTold 41 = .ok (.iload_n 1, 1) := by decide +kernel
theorem dX7_numberTold_42 : decode cX7_numberTold 42 = .ok (.ireturn, 1) := by decide +kernel
theorem dX7_numberTold_15 : decode cX7_numberTold 15 = .ok (.sipush 10000, 3) := by decide +kernel
theorem dX7_numberTold_18 : decode cX7_numberTold 18 = .ok (.bipush 10, 2) := by decide +kernel
theorem dX7_numberTold_20 : decode cX7_numberTold 20 = .ok (.iload_n 1, 1) := by decide +kernel
theorem dX7_numberTold_21 : decode cX7_numberTold 21 = .ok (.imul, 1) := by decide +kernel
theorem dX7_numberTold_22 : decode cX7_numberTold 22 = .ok (.aload_n 0, 1) := by decide +kernel
theorem dX7_numberTold_23 : decode cX7_numberTold 23 = .ok (.iload_n 2, 1) := by decide +kernel
theorem dX7_numberTold_24 : decode cX7_numberTold 24 = .ok (.invokevirtual 41, 3) := by decide +kernel
theorem dX7_numberTold_27 : decode cX7_numberTold 27 = .ok (.iadd, 1) := by decide +kernel
theorem dX7_numberTold_28 : decode cX7_numberTold 28 = .ok (.bipush 48, 2) := by decide +kernel
theorem dX7_numberTold_30 : decode cX7_numberTold 30 = .ok (.isub, 1) := by decide +kernel
theorem dX7_numberTold_31 : decode cX7_numberTold 31 = .ok (.invokestatic 52, 3) := by decide +kernel
theorem dX7_numberTold_34 : decode cX7_numberTold 34 = .ok (.istore_n 1, 1) := by decide +kernel
theorem dX7_numberTold_35 : decode cX7_numberTold 35 = .ok (.iinc 2 1, 3) := by decide +kernel
theorem dX7_numberTold_38 : decode cX7_numberTold 38 = .ok (.goto (-31), 3) := by decide +kernel
theorem dX7_isEvenNumber_0 : decode cX7_isEvenNumber 0 = .ok (.aload_n 0, 1) := by decide +kernel
theorem dX7_isEvenNumber_1 : decode cX7_isEvenNumber 1 = .ok (.invokevirtual 58, 3) := by decide +kernel
theorem dX7_isEvenNumber_4 : decode cX7_isEvenNumber 4 = .ok (.ifCond .eq 16, 3) := by decide +kernel
theorem dX7_isEvenNumber_20 : decode cX7_isEvenNumber 20 = .ok (.iconst 0, 1) := by decide +kernel
theorem dX7_isEvenNumber_21 : decode cX7_isEvenNumber 21 = .ok (.ireturn, 1) := by decide +kernel
theorem dX7_isEvenNumber_7 : decode cX7_isEvenNumber 7 = .ok (.aload_n 0, 1) := by decide +kernel
theorem dX7_isEvenNumber_8 : decode cX7_isEvenNumber 8 = .ok (.invokevirtual 61, 3) := by decide +kernel
theorem dX7_isEvenNumber_11 : decode cX7_isEvenNumber 11 = .ok (.iconst 2, 1) := by decide +kernel
theorem dX7_isEvenNumber_12 : decode cX7_isEvenNumber 12 = .ok (.irem, 1) := by decide +kernel
theorem dX7_isEvenNumber_13 : decode cX7_isEvenNumber 13 = .ok (.ifCond .ne 7, 3) := by decide +kernel
theorem dX7_isEvenNumber_16 : decode cX7_isEvenNumber 16 = .ok (.iconst 1, 1) := by decide +kernel
theorem dX7_isEvenNumber_17 : decode cX7_isEvenNumber 17 = .ok (.goto 4, 3) := by decide +kernel
theorem dX7_isSemicolon_0 : decode cX7_isSemicolon 0 = .ok (.aload_n 0, 1) := by decide +kernel
theorem dX7_isSemicolon_1 : decode cX7_isSemicolon 1 = .ok (.getfield 35, 3) := by decide +kernel
theorem dX7_isSemicolon_4 : decode cX7_isSemicolon 4 = .ok (.iconst 3, 1) := by decide +kernel
theorem dX7_isSemicolon_5 : decode cX7_isSemicolon 5 = .ok (.if_icmp .ne 7, 3) := by decide +kernel
theorem dX7_isSemicolon_12 : decode cX7_isSemicolon 12 = .ok (.iconst 0, 1) := by decide +kernel
theorem dX7_isSemicolon_13 : decode cX7_isSemicolon 13 = .ok (.ireturn, 1) := by decide +kernel
theorem dX7_isSemicolon_8 : decode cX7_isSemicolon 8 = .ok (.iconst 1, 1) := by decide +kernel
theorem dX7_isSemicolon_9 : decode cX7_isSemicolon 9 = .ok (.goto 4, 3) := by decide +kernel
theorem dX7_isWord_0 : decode cX7_isWord 0 = .ok (.aload_n 0, 1) := by decide +kernel
theorem dX7_isWord_1 : decode cX7_isWord 1 = .ok (.getfield 35, 3) := by decide +kernel
theorem dX7_isWord_4 : decode cX7_isWord 4 = .ok (.iconst 1, 1) := by decide +kernel
theorem dX7_isWord_5 : decode cX7_isWord 5 = .ok (.if_icmp .ne 19, 3) := by decide +kernel
theorem dX7_isWord_24 : decode cX7_isWord 24 = .ok (.iconst 0, 1) := by decide +kernel
theorem dX7_isWord_25 : decode cX7_isWord 25 = .ok (.ireturn, 1) := by decide +kernel
theorem dX7_isWord_8 : decode cX7_isWord 8 = .ok (.aload_n 0, 1) := by decide +kernel
theorem dX7_isWord_9 : decode cX7_isWord 9 = .ok (.getfield 25, 3) := by decide +kernel
theorem dX7_isWord_12 : decode cX7_isWord 12 = .ok (.aload_n 0, 1) := by decide +kernel
theorem dX7_isWord_13 : decode cX7_isWord 13 = .ok (.getfield 38, 3) := by decide +kernel
theorem dX7_isWord_16 : decode cX7_isWord 16 = .ok (.isub, 1) := by decide +kernel
theorem dX7_isWord_17 : decode cX7_isWord 17 = .ok (.aload_n 1, 1) := by decide +kernel
theorem dX7_isWord_18 : decode cX7_isWord 18 = .ok (.invokevirtual 65, 3) := by decide +kernel
theorem dX7_isWord_21 : decode cX7_isWord 21 = .ok (.if_icmp .eq 5, 3) := by decide +kernel
theorem dX7_isWord_26 : decode cX7_isWord 26 = .ok (.iconst 0, 1) := by decide +kernel
theorem dX7_isWord_27 : decode cX7_isWord 27 = .ok (.istore_n 2, 1) := by decide +kernel
theorem dX7_isWord_28 : decode cX7_isWord 28 = .ok (.iload_n 2, 1) := by decide +kernel
theorem dX7_isWord_29 : decode cX7_isWord 29 = .ok (.aload_n 1, 1) := by decide +kernel
theorem dX7_isWord_30 : decode cX7_isWord 30 = .ok (.invokevirtual 65, 3) := by decide +kernel
theorem dX7_isWord_33 : decode cX7_isWord 33 = .ok (.if_icmp .ge 29, 3) := by decide +kernel
theorem dX7_isWord_62 : decode cX7_isWord 62 = .ok (.iconst 1, 1) := by decide +kernel
theorem dX7_isWord_63 : decode cX7_isWord 63 = .ok (.ireturn, 1) := by decide +kernel
theorem dX7_isWord_36 : decode cX7_isWord 36 = .ok (.aload_n 1, 1) := by decide +kernel
theorem dX7_isWord_37 : decode cX7_isWord 37 = .ok (.iload_n 2, 1) := by decide +kernel
theorem dX7_isWord_38 : decode cX7_isWord 38 = .ok (.invokevirtual 70, 3) := by decide +kernel
theorem dX7_isWord_41 : decode cX7_isWord 41 = .ok (.aload_n 0, 1) := by decide +kernel
theorem dX7_isWord_42 : decode cX7_isWord 42 = .ok (.aload_n 0, 1) := by decide +kernel
theorem dX7_isWord_43 : decode cX7_isWord 43 = .ok (.getfield 38, 3) := by decide +kernel
theorem dX7_isWord_46 : decode cX7_isWord 46 = .ok (.iload_n 2, 1) := by decide +kernel
theorem dX7_isWord_47 : decode cX7_isWord 47 = .ok (.iadd, 1) := by decide +kernel
theorem dX7_isWord_48 : decode cX7_isWord 48 = .ok (.invokevirtual 41, 3) := by decide +kernel
theorem dX7_isWord_51 : decode cX7_isWord 51 = .ok (.if_icmp .eq 5, 3) := by decide +kernel
theorem dX7_isWord_56 : decode cX7_isWord 56 = .ok (.iinc 2 1, 3) := by decide +kernel
theorem dX7_isWord_59 : decode cX7_isWord 59 = .ok (.goto (-31), 3) := by decide +kernel
theorem dX7_isWord_54 : decode cX7_isWord 54 = .ok (.iconst 0, 1) := by decide +kernel
theorem dX7_isWord_55 : decode cX7_isWord 55 = .ok (.ireturn, 1) := by decide +kernel
theorem dJ1_canEncode_9a6ad_0 : decode cJ1_canEncode_9a6ad 0 = .ok (.iload_n 0, 1) := by decide +kernel
theorem dJ1_canEncode_9a6ad_1 : decode cJ1_canEncode_9a6ad 1 = .ok (.ifCond .lt 14, 3) := by decide +kernel
theorem dJ1_canEncode_9a6ad_15 : decode cJ1_canEncode_9a6ad 15 = .ok (.iconst 0, 1) := by decide +kernel
theorem dJ1_canEncode_9a6ad_16 : decode cJ1_canEncode_9a6ad 16 = .ok (.ireturn, 1) := by decide +kernel
theorem dJ1_canEncode_9a6ad_4 : decode cJ1_canEncode_9a6ad 4 = .ok (.iload_n 0, 1) := by decide +kernel
theorem dJ1_canEncode_9a6ad_5 : decode cJ1_canEncode_9a6ad 5 = .ok (.sipush 255, 3) := by decide +kernel
theorem dJ1_canEncode_9a6ad_8 : decode cJ1_canEncode_9a6ad 8 = .ok (.if_icmp .gt 7, 3) := by decide +kernel
theorem dJ1_canEncode_9a6ad_11 : decode cJ1_canEncode_9a6ad 11 = .ok (.iconst 1, 1) := by decide +kernel
theorem dJ1_canEncode_9a6ad_12 : decode cJ1_canEncode_9a6ad 12 = .ok (.goto 4, 3) := by decide +kernel
theorem dJ1_indexOfChar_4cfef_0 : decode cJ1_indexOfChar_4cfef 0 = .ok (.iload_n 1, 1) := by decide +kernel
theorem dJ1_indexOfChar_4cfef_1 : decode cJ1_indexOfChar_4cfef 1 = .ok (.i2b, 1) := by decide +kernel
theorem dJ1_indexOfChar_4cfef_2 : decode cJ1_indexOfChar_4cfef 2 = .ok (.istore 4, 2) := by decide +kernel
theorem dJ1_indexOfChar_4cfef_4 : decode cJ1_indexOfChar_4cfef 4 = .ok (.iload_n 2, 1) := by decide +kernel
theorem dJ1_indexOfChar_4cfef_5 : decode cJ1_indexOfChar_4cfef 5 = .ok (.istore 5, 2) := by decide +kernel
theorem dJ1_indexOfChar_4cfef_7 : decode cJ1_indexOfChar_4cfef 7 = .ok (.iload 5, 2) := by decide +kernel
theorem dJ1_indexOfChar_4cfef_9 : decode cJ1_indexOfChar_4cfef 9 = .ok (.iload_n 3, 1) := by decide +kernel
theorem dJ1_indexOfChar_4cfef_10 : decode cJ1_indexOfChar_4cfef 10 = .ok (.if_icmp .ge 21, 3) := by decide +kernel
theorem dJ1_indexOfChar_4cfef_31 : decode cJ1_indexOfChar_4cfef 31 = .ok (.iconst (-1), 1) := by decide +kernel
theorem dJ1_indexOfChar_4cfef_32 : decode cJ1_indexOfChar_4cfef 32 = .ok (.ireturn, 1) := by decide +kernel
theorem dJ1_indexOfChar_4cfef_13 : decode cJ1_indexOfChar_4cfef 13 = .ok (.aload_n 0, 1) := by decide +kernel
theorem dJ1_indexOfChar_4cfef_14 : decode cJ1_indexOfChar_4cfef 14 = .ok (.iload 5, 2) := by decide +kernel
theorem dJ1_indexOfChar_4cfef_16 : decode cJ1_indexOfChar_4cfef 16 = .ok (.baload, 1) := by decide +kernel
theorem dJ1_indexOfChar_4cfef_17 : decode cJ1_indexOfChar_4cfef 17 = .ok (.iload 4, 2) := by decide +kernel
theorem dJ1_indexOfChar_4cfef_19 : decode cJ1_indexOfChar_4cfef 19 = .ok (.if_icmp .ne 6, 3) := by decide +kernel
theorem dJ1_indexOfChar_4cfef_25 : decode cJ1_indexOfChar_4cfef 25 = .ok (.iinc 5 1, 3) := by decide +kernel
theorem dJ1_indexOfChar_4cfef_28 : decode cJ1_indexOfChar_4cfef 28 = .ok (.goto (-21), 3) := by decide +kernel
theorem dJ1_indexOfChar_4cfef_22 : decode cJ1_indexOfChar_4cfef 22 = .ok (.iload 5, 2) := by decide +kernel
theorem dJ1_indexOfChar_4cfef_24 : decode cJ1_indexOfChar_4cfef 24 = .ok (.ireturn, 1) := by decide +kernel
theorem dJ1_indexOf_4cfef_0 : decode cJ1_indexOf_4cfef 0 = .ok (.iload_n 1, 1) := by decide +kernel
theorem dJ1_indexOf_4cfef_1 : decode cJ1_indexOf_4cfef 1 = .ok (.invokestatic 88, 3) := by decide +kernel
theorem dJ1_indexOf_4cfef_4 : decode cJ1_indexOf_4cfef 4 = .ok (.ifCond .ne 5, 3) := by decide +kernel
theorem dJ1_indexOf_4cfef_9 : decode cJ1_indexOf_4cfef 9 = .ok (.iload_n 2, 1) := by decide +kernel
theorem dJ1_indexOf_4cfef_10 : decode cJ1_indexOf_4cfef 10 = .ok (.iconst 0, 1) := by decide +kernel
theorem dJ1_indexOf_4cfef_11 : decode cJ1_indexOf_4cfef 11 = .ok (.invokestatic 92, 3) := by decide +kernel
theorem dJ1_indexOf_4cfef_14 : decode cJ1_indexOf_4cfef 14 = .ok (.istore_n 2, 1) := by decide +kernel
theorem dJ1_indexOf_4cfef_15 : decode cJ1_indexOf_4cfef 15 = .ok (.iload_n 3, 1) := by decide +kernel
theorem dJ1_indexOf_4cfef_16 : decode cJ1_indexOf_4cfef 16 = .ok (.aload_n 0, 1) := by decide +kernel
theorem dJ1_indexOf_4cfef_17 : decode cJ1_indexOf_4cfef 17 = .ok (.arraylength, 1) := by decide +kernel
theorem dJ1_indexOf_4cfef_18 : decode cJ1_indexOf_4cfef 18 = .ok (.invokestatic 38, 3) := by decide +kernel
theorem dJ1_indexOf_4cfef_21 : decode cJ1_indexOf_4cfef 21 = .ok (.istore_n 3, 1) := by decide +kernel
theorem dJ1_indexOf_4cfef_22 : decode cJ1_indexOf_4cfef 22 = .ok (.iload_n 2, 1) := by decide +kernel
theorem dJ1_indexOf_4cfef_23 : decode cJ1_indexOf_4cfef 23 = .ok (.iload_n 3, 1) := by decide +kernel
theorem dJ1_indexOf_4cfef_24 : decode cJ1_indexOf_4cfef 24 = .ok (.if_icmp .lt 5, 3) := by decide +kernel
theorem dJ1_indexOf_4cfef_29 : decode cJ1_indexOf_4cfef 29 = .ok (.aload_n 0, 1) := by decide +kernel
theorem dJ1_indexOf_4cfef_30 : decode cJ1_indexOf_4cfef 30 = .ok (.iload_n 1, 1) := by decide +kernel
theorem dJ1_indexOf_4cfef_31 : decode cJ1_indexOf_4cfef 31 = .ok (.iload_n 2, 1) := by decide +kernel
theorem dJ1_indexOf_4cfef_32 : decode cJ1_indexOf_4cfef 32 = .ok (.iload_n 3, 1) := by decide +kernel
theorem dJ1_indexOf_4cfef_33 : decode cJ1_indexOf_4cfef 33 = .ok (.invokestatic 95, 3) := by decide +kernel
theorem dJ1_indexOf_4cfef_36 : decode cJ1_indexOf_4cfef 36 = .ok (.ireturn, 1) := by decide +kernel
theorem dJ1_indexOf_4cfef_27 : decode cJ1_indexOf_4cfef 27 = .ok (.iconst (-1), 1) := by decide +kernel
theorem dJ1_indexOf_4cfef_28 : decode cJ1_indexOf_4cfef 28 = .ok (.ireturn, 1) := by decide +kernel
theorem dJ1_indexOf_4cfef_7 : decode cJ1_indexOf_4cfef 7 = .ok (.iconst (-1), 1) := by decide +kernel
theorem dJ1_indexOf_4cfef_8 : decode cJ1_indexOf_4cfef 8 = .ok (.ireturn, 1) := by decide +kernel
theorem dJ0_indexOf_7cf53_0 : decode cJ0_indexOf_7cf53 0 = .ok (.aload_n 0, 1) := by decide +kernel
theorem dJ0_indexOf_7cf53_1 : decode cJ0_indexOf_7cf53 1 = .ok (.invokevirtual 492, 3) := by decide +kernel
theorem dJ0_indexOf_7cf53_4 : decode cJ0_indexOf_7cf53 4 = .ok (.ifCond .eq 19, 3) := by decide +kernel
theorem dJ0_indexOf_7cf53_7 : decode cJ0_indexOf_7cf53 7 = .ok (.aload_n 0, 1) := by decide +kernel
theorem dJ0_indexOf_7cf53_8 : decode cJ0_indexOf_7cf53 8 = .ok (.getfield 9, 3) := by decide +kernel
theorem dJ0_indexOf_7cf53_11 : decode cJ0_indexOf_7cf53 11 = .ok (.iload_n 1, 1) := by decide +kernel
theorem dJ0_indexOf_7cf53_12 : decode cJ0_indexOf_7cf53 12 = .ok (.iload_n 2, 1) := by decide +kernel
theorem dJ0_indexOf_7cf53_13 : decode cJ0_indexOf_7cf53 13 = .ok (.aload_n 0, 1) := by decide +kernel
theorem dJ0_indexOf_7cf53_14 : decode cJ0_indexOf_7cf53 14 = .ok (.invokevirtual 505, 3) := by decide +kernel
theorem dJ0_indexOf_7cf53_17 : decode cJ0_indexOf_7cf53 17 = .ok (.invokestatic 637, 3) := by decide +kernel
theorem dJ0_indexOf_7cf53_20 : decode cJ0_indexOf_7cf53 20 = .ok (.goto 16, 3) := by decide +kernel
theorem dJ0_indexOf_7cf53_36 : decode cJ0_indexOf_7cf53 36 = .ok (.ireturn, 1) := by decide +kernel
theorem dJ0_indexOf_0f7a4_0 : decode cJ0_indexOf_0f7a4 0 = .ok (.aload_n 0, 1) := by decide +kernel
theorem dJ0_indexOf_0f7a4_1 : decode cJ0_indexOf_0f7a4 1 = .ok (.iload_n 1, 1) := by decide +kernel
theorem dJ0_indexOf_0f7a4_2 : decode cJ0_indexOf_0f7a4 2 = .ok (.iconst 0, 1) := by decide +kernel
theorem dJ0_indexOf_0f7a4_3 : decode cJ0_indexOf_0f7a4 3 = .ok (.invokevirtual 633, 3) := by decide +kernel
theorem dJ0_indexOf_0f7a4_6 : decode cJ0_indexOf_0f7a4 6 = .ok (.ireturn, 1) := by decide +kernel
theorem dX7_isWordOf_0 : decode cX7_isWordOf 0 = .ok (.aload_n 0, 1) := by decide +kernel
theorem dX7_isWordOf_1 : decode cX7_isWordOf 1 = .ok (.getfield 38, 3) := by decide +kernel
theorem dX7_isWordOf_4 : decode cX7_isWordOf 4 = .ok (.istore_n 2, 1) := by decide +kernel
theorem dX7_isWordOf_5 : decode cX7_isWordOf 5 = .ok (.iload_n 2, 1) := by decide +kernel
theorem dX7_isWordOf_6 : decode cX7_isWordOf 6 = .ok (.aload_n 0, 1) := by decide +kernel
theorem dX7_isWordOf_7 : decode cX7_isWordOf 7 = .ok (.getfield 25, 3) := by decide +kernel
theorem dX7_isWordOf_10 : decode cX7_isWordOf 10 = .ok (.if_icmp .ge 24, 3) := by decide +kernel
theorem dX7_isWordOf_34 : decode cX7_isWordOf 34 = .ok (.aload_n 0, 1) := by decide +kernel
theorem dX7_isWordOf_35 : decode cX7_isWordOf 35 = .ok (.getfield 35, 3) := by decide +kernel
theorem dX7_isWordOf_38 : decode cX7_isWordOf 38 = .ok (.iconst 1, 1) := by decide +kernel
theorem dX7_isWordOf_39 : decode cX7_isWordOf 39 = .ok (.if_icmp .ne 7, 3) := by decide +kernel
theorem dX7_isWordOf_46 : decode cX7_isWordOf 46 = .ok (.iconst 0, 1) := by decide +kernel
theorem dX7_isWordOf_47 : decode cX7_isWordOf 47 = .ok (.ireturn, 1) := by decide +kernel
theorem dX7_isWordOf_42 : decode cX7_isWordOf 42 = .ok (.iconst 1, 1) := by decide +kernel
theorem dX7_isWordOf_43 : decode cX7_isWordOf 43 = .ok (.goto 4, 3) := by decide +kernel
theorem dX7_isWordOf_13 : decode cX7_isWordOf 13 = .ok (.aload_n 1, 1) := by decide +kernel
theorem dX7_isWordOf_14 : decode cX7_isWordOf 14 = .ok (.aload_n 0, 1) := by decide +kernel
theorem dX7_isWordOf_15 : decode cX7_isWordOf 15 = .ok (.iload_n 2, 1) := by decide +kernel
theorem dX7_isWordOf_16 : decode cX7_isWordOf 16 = .ok (.invokevirtual 41, 3) := by decide +kernel
theorem dX7_isWordOf_19 : decode cX7_isWordOf 19 = .ok (.i2c, 1) := by decide +kernel
theorem dX7_isWordOf_20 : decode cX7_isWordOf 20 = .ok (.invokevirtual 74, 3) := by decide +kernel
theorem dX7_isWordOf_23 : decode cX7_isWordOf 23 = .ok (.ifCond .ge 5, 3) := by decide +kernel
theorem dX7_isWordOf_28 : decode cX7_isWordOf 28 = .ok (.iinc 2 1, 3) := by decide +kernel
theorem dX7_isWordOf_31 : decode cX7_isWordOf 31 = .ok (.goto (-26), 3) := by decide +kernel
theorem dX7_isWordOf_26 : decode cX7_isWordOf 26 = .ok (.iconst 0, 1) := by decide +kernel
theorem dX7_isWordOf_27 : decode cX7_isWordOf 27 = .ok (.ireturn, 1) := by decide +kernel
theorem dX7_wordLength_0 : decode cX7_wordLength 0 = .ok (.aload_n 0, 1) := by decide +kernel
theorem dX7_wordLength_1 : decode cX7_wordLength 1 = .ok (.getfield 35, 3) := by decide +kernel
theorem dX7_wordLength_4 : decode cX7_wordLength 4 = .ok (.iconst 1, 1) := by decide +kernel
theorem dX7_wordLength_5 : decode cX7_wordLength 5 = .ok (.if_icmp .ne 15, 3) := by decide +kernel
theorem dX7_wordLength_20 : decode cX7_wordLength 20 = .ok (.iconst 0, 1) := by decide +kernel
theorem dX7_wordLength_21 : decode cX7_wordLength 21 = .ok (.ireturn, 1) := by decide +kernel
theorem dX7_wordLength_8 : decode cX7_wordLength 8 = .ok (.aload_n 0, 1) := by decide +kernel
theorem dX7_wordLength_9 : decode cX7_wordLength 9 = .ok (.getfield 25, 3) := by decide +kernel
theorem dX7_wordLength_12 : decode cX7_wordLength 12 = .ok (.aload_n 0, 1) := by decide +kernel
theorem dX7_wordLength_13 : decode cX7_wordLength 13 = .ok (.getfield 38, 3) := by decide +kernel
theorem dX7_wordLength_16 : decode cX7_wordLength 16 = .ok (.isub, 1) := by decide +kernel
theorem dX7_wordLength_17 : decode cX7_wordLength 17 = .ok (.goto 4, 3) := by decide +kernel
theorem dX7_signOfWord_0 : decode cX7_signOfWord 0 = .ok (.aload_n 2, 1) := by decide +kernel
theorem dX7_signOfWord_1 : decode cX7_signOfWord 1 = .ok (.aload_n 0, 1) := by decide +kernel
theorem dX7_signOfWord_2 : decode cX7_signOfWord 2 = .ok (.aload_n 0, 1) := by decide +kernel
theorem dX7_signOfWord_3 : decode cX7_signOfWord 3 = .ok (.getfield 38, 3) := by decide +kernel
theorem dX7_signOfWord_6 : decode cX7_signOfWord 6 = .ok (.iload_n 1, 1) := by decide +kernel
theorem dX7_signOfWord_7 : decode cX7_signOfWord 7 = .ok (.iadd, 1) := by decide +kernel
theorem dX7_signOfWord_8 : decode cX7_signOfWord 8 = .ok (.invokevirtual 41, 3) := by decide +kernel
theorem dX7_signOfWord_11 : decode cX7_signOfWord 11 = .ok (.i2c, 1) := by decide +kernel
theorem dX7_signOfWord_12 : decode cX7_signOfWord 12 = .ok (.invokevirtual 74, 3) := by decide +kernel
theorem dX7_signOfWord_15 : decode cX7_signOfWord 15 = .ok (.ireturn, 1) := by decide +kernel
theorem dX7_takeWord_0 : decode cX7_takeWord 0 = .ok (.aload_n 0, 1) := by decide +kernel
theorem dX7_takeWord_1 : decode cX7_takeWord 1 = .ok (.aload_n 1, 1) := by decide +kernel
theorem dX7_takeWord_2 : decode cX7_takeWord 2 = .ok (.invokevirtual 77, 3) := by decide +kernel
theorem dX7_takeWord_5 : decode cX7_takeWord 5 = .ok (.ifCond .eq 10, 3) := by decide +kernel
theorem dX7_takeWord_15 : decode cX7_takeWord 15 = .ok (.aload_n 0, 1) := by decide +kernel
theorem dX7_takeWord_16 : decode cX7_takeWord 16 = .ok (.iconst 1, 1) := by decide +kernel
theorem dX7_takeWord_17 : decode cX7_takeWord 17 = .ok (.invokevirtual 81, 3) := by decide +kernel
theorem dX7_takeWord_20 : decode cX7_takeWord 20 = .ok (.return_, 1) := by decide +kernel
theorem dX7_takeWord_8 : decode cX7_takeWord 8 = .ok (.aload_n 0, 1) := by decide +kernel
theorem dX7_takeWord_9 : decode cX7_takeWord 9 = .ok (.invokevirtual 28, 3) := by decide +kernel
theorem dX7_takeWord_12 : decode cX7_takeWord 12 = .ok (.goto 8, 3) := by decide +kernel
theorem dX7_mayTakeWord_0 : decode cX7_mayTakeWord 0 = .ok (.aload_n 0, 1) := by decide +kernel
theorem dX7_mayTakeWord_1 : decode cX7_mayTakeWord 1 = .ok (.aload_n 1, 1) := by decide +kernel
theorem dX7_mayTakeWord_2 : decode cX7_mayTakeWord 2 = .ok (.invokevirtual 77, 3) := by decide +kernel
theorem dX7_mayTakeWord_5 : decode cX7_mayTakeWord 5 = .ok (.ifCond .ne 5, 3) := by decide +kernel
theorem dX7_mayTakeWord_10 : decode cX7_mayTakeWord 10 = .ok (.aload_n 0, 1) := by decide +kernel
theorem dX7_mayTakeWord_11 : decode cX7_mayTakeWord 11 = .ok (.invokevirtual 28, 3) := by decide +kernel
theorem dX7_mayTakeWord_14 : decode cX7_mayTakeWord 14 = .ok (.iconst 1, 1) := by decide +kernel
theorem dX7_mayTakeWord_15 : decode cX7_mayTakeWord 15 = .ok (.ireturn, 1) := by decide +kernel
theorem dX7_mayTakeWord_8 : decode cX7_mayTakeWord 8 = .ok (.iconst 0, 1) := by decide +kernel
theorem dX7_mayTakeWord_9 : decode cX7_mayTakeWord 9 = .ok (.ireturn, 1) := by decide +kernel
theorem dX7_takeNumber_0 : decode cX7_takeNumber 0 = .ok (.aload_n 0, 1) := by decide +kernel
theorem dX7_takeNumber_1 : decode cX7_takeNumber 1 = .ok (.invokevirtual 58, 3) := by decide +kernel
theorem dX7_takeNumber_4 : decode cX7_takeNumber 4 = .ok (.ifCond .ne 10, 3) := by decide +kernel
theorem dX7_takeNumber_14 : decode cX7_takeNumber 14 = .ok (.aload_n 0, 1) := by decide +kernel
theorem dX7_takeNumber_15 : decode cX7_takeNumber 15 = .ok (.invokevirtual 61, 3) := by decide +kernel
theorem dX7_takeNumber_18 : decode cX7_takeNumber 18 = .ok (.istore_n 3, 1) := by decide +kernel
theorem dX7_takeNumber_19 : decode cX7_takeNumber 19 = .ok (.iload_n 3, 1) := by decide +kernel
theorem dX7_takeNumber_20 : decode cX7_takeNumber 20 = .ok (.iload_n 1, 1) := by decide +kernel
theorem dX7_takeNumber_21 : decode cX7_takeNumber 21 = .ok (.if_icmp .lt 8, 3) := by decide +kernel
theorem dX7_takeNumber_29 : decode cX7_takeNumber 29 = .ok (.aload_n 0, 1) := by decide +kernel
theorem dX7_takeNumber_30 : decode cX7_takeNumber 30 = .ok (.iconst 2, 1) := by decide +kernel
theorem dX7_takeNumber_31 : decode cX7_takeNumber 31 = .ok (.invokevirtual 81, 3) := by decide +kernel
theorem dX7_takeNumber_34 : decode cX7_takeNumber 34 = .ok (.iload_n 1, 1) := by decide +kernel
theorem dX7_takeNumber_35 : decode cX7_takeNumber 35 = .ok (.ireturn, 1) := by decide +kernel
theorem dX7_takeNumber_24 : decode cX7_takeNumber 24 = .ok (.iload_n 3, 1) := by decide +kernel
theorem dX7_takeNumber_25 : decode cX7_takeNumber 25 = .ok (.iload_n 2, 1) := by decide +kernel
theorem dX7_takeNumber_26 : decode cX7_takeNumber 26 = .ok (.if_icmp .le 10, 3) := by decide +kernel
theorem dX7_takeNumber_36 : decode cX7_takeNumber 36 = .ok (.aload_n 0, 1) := by decide +kernel
theorem dX7_takeNumber_37 : decode cX7_takeNumber 37 = .ok (.invokevirtual 28, 3) := by decide +kernel
theorem dX7_takeNumber_40 : decode cX7_takeNumber 40 = .ok (.iload_n 3, 1) := by decide +kernel
theorem dX7_takeNumber_41 : decode cX7_takeNumber 41 = .ok (.ireturn, 1) := by decide +kernel
theorem dX7_takeNumber_7 : decode cX7_takeNumber 7 = .ok (.aload_n 0, 1) := by decide +kernel
theorem dX7_takeNumber_8 : decode cX7_takeNumber 8 = .ok (.iconst 1, 1) := by decide +kernel
theorem dX7_takeNumber_9 : decode cX7_takeNumber 9 = .ok (.invokevirtual 81, 3) := by decide +kernel
theorem dX7_takeNumber_12 : decode cX7_takeNumber 12 = .ok (.iload_n 1, 1) := by decide +kernel
theorem dX7_takeNumber_13 : decode cX7_takeNumber 13 = .ok (.ireturn, 1) := by decide +kernel
theorem dX7_takeSemicolon_0 : decode cX7_takeSemicolon 0 = .ok (.aload_n 0, 1) := by decide +kernel
theorem dX7_takeSemicolon_1 : decode cX7_takeSemicolon 1 = .ok (.invokevirtual 85, 3) := by decide +kernel
theorem dX7_takeSemicolon_4 : decode cX7_takeSemicolon 4 = .ok (.ifCond .eq 10, 3) := by decide +kernel
theorem dX7_takeSemicolon_14 : decode cX7_takeSemicolon 14 = .ok (.aload_n 0, 1) := by decide +kernel
theorem dX7_takeSemicolon_15 : decode cX7_takeSemicolon 15 = .ok (.iconst 1, 1) := by decide +kernel
theorem dX7_takeSemicolon_16 : decode cX7_takeSemicolon 16 = .ok (.invokevirtual 81, 3) := by decide +kernel
theorem dX7_takeSemicolon_19 : decode cX7_takeSemicolon 19 = .ok (.return_, 1) := by decide +kernel
theorem dX7_takeSemicolon_7 : decode cX7_takeSemicolon 7 = .ok (.aload_n 0, 1) := by decide +kernel
theorem dX7_takeSemicolon_8 : decode cX7_takeSemicolon 8 = .ok (.invokevirtual 28, 3) := by decide +kernel
theorem dX7_takeSemicolon_11 : decode cX7_takeSemicolon 11 = .ok (.goto 8, 3) := by decide +kernel
theorem dX7_takeEnd_0 : decode cX7_takeEnd 0 = .ok (.aload_n 0, 1) := by decide +kernel
theorem dX7_takeEnd_1 : decode cX7_takeEnd 1 = .ok (.getfield 35, 3) := by decide +kernel
theorem dX7_takeEnd_4 : decode cX7_takeEnd 4 = .ok (.ifCond .eq 8, 3) := by decide +kernel
theorem dX7_takeEnd_12 : decode cX7_takeEnd 12 = .ok (.return_, 1) := by decide +kernel
theorem dX7_takeEnd_7 : decode cX7_takeEnd 7 = .ok (.aload_n 0, 1) := by decide +kernel
theorem dX7_takeEnd_8 : decode cX7_takeEnd 8 = .ok (.iconst 1, 1) := by decide +kernel
theorem dX7_takeEnd_9 : decode cX7_takeEnd 9 = .ok (.invokevirtual 81, 3) := by decide +kernel
theorem dX7_isWords_0 : decode cX7_isWords 0 = .ok (.aload_n 0, 1) := by decide +kernel
theorem dX7_isWords_1 : decode cX7_isWords 1 = .ok (.iconst 0, 1) := by decide +kernel
theorem dX7_isWords_2 : decode cX7_isWords 2 = .ok (.putfield 22, 3) := by decide +kernel
theorem dX7_isWords_5 : decode cX7_isWords 5 = .ok (.aload_n 0, 1) := by decide +kernel
theorem dX7_isWords_6 : decode cX7_isWords 6 = .ok (.iconst (-1), 1) := by decide +kernel
theorem dX7_isWords_7 : decode cX7_isWords 7 = .ok (.putfield 15, 3) := by decide +kernel
theorem dX7_isWords_10 : decode cX7_isWords 10 = .ok (.aload_n 0, 1) := by decide +kernel
theorem dX7_isWords_11 : decode cX7_isWords 11 = .ok (.iconst 0, 1) := by decide +kernel
theorem dX7_isWords_12 : decode cX7_isWords 12 = .ok (.putfield 38, 3) := by decide +kernel
theorem dX7_isWords_15 : decode cX7_isWords 15 = .ok (.aload_n 0, 1) := by decide +kernel
theorem dX7_isWords_16 : decode cX7_isWords 16 = .ok (.getfield 38, 3) := by decide +kernel
theorem dX7_isWords_19 : decode cX7_isWords 19 = .ok (.aload_n 0, 1) := by decide +kernel
theorem dX7_isWords_20 : decode cX7_isWords 20 = .ok (.getfield 19, 3) := by decide +kernel
theorem dX7_isWords_67 : decode cX7_isWords 67 = .ok (.aload_n 0, 1) := by decide +kernel
theorem dX7_isWords_68 : decode cX7_isWords 68 = .ok (.getfield 38, 3) := by decide +kernel
theorem dX7_isWords_71 : decode cX7_isWords 71 = .ok (.aload_n 0, 1) := by decide +kernel
theorem dX7_isWords_72 : decode cX7_isWords 72 = .ok (.getfield 19, 3) := by decide +kernel
theorem dX7_isWords_75 : decode cX7_isWords 75 = .ok (.if_icmp .lt 10, 3) := by decide +kernel
theorem dX7_isWords_85 : decode cX7_isWords 85 = .ok (.aload_n 0, 1) := by decide +kernel
theorem dX7_isWords_86 : decode cX7_isWords 86 = .ok (.iconst 1, 1) := by decide +kernel
theorem dX7_isWords_87 : decode cX7_isWords 87 = .ok (.invokevirtual 81, 3) := by decide +kernel
theorem dX7_isWords_90 : decode cX7_isWords 90 = .ok (.aload_n 0, 1) := by decide +kernel
theorem dX7_isWords_91 : decode cX7_isWords 91 = .ok (.invokevirtual 31, 3) := by decide +kernel
theorem dX7_isWords_94 : decode cX7_isWords 94 = .ok (.ireturn, 1) := by decide +kernel
theorem dX7_isWords_78 : decode cX7_isWords 78 = .ok (.aload_n 0, 1) := by decide +kernel
theorem dX7_isWords_79 : decode cX7_isWords 79 = .ok (.getfield 19, 3) := by decide +kernel
theorem dX7_isWords_82 : decode cX7_isWords 82 = .ok (.ifCond .ne 8, 3) := by decide +kernel
theorem dX7_isWords_23 : decode cX7_isWords 23 = .ok (.if_icmp .ge 44, 3) := by decide +kernel
theorem dX7_isWords_26 : decode cX7_isWords 26 = .ok (.aload_n 0, 1) := by decide +kernel
theorem dX7_isWords_27 : decode cX7_isWords 27 = .ok (.aload_n 0, 1) := by decide +kernel
theorem dX7_isWords_28 : decode cX7_isWords 28 = .ok (.getfield 38, 3) := by decide +kernel
theorem dX7_isWords_31 : decode cX7_isWords 31 = .ok (.invokevirtual 41, 3) := by decide +kernel
theorem dX7_isWords_34 : decode cX7_isWords 34 = .ok (.bipush 32, 2) := by decide +kernel
theorem dX7_isWords_36 : decode cX7_isWords 36 = .ok (.if_icmp .eq 18, 3) := by decide +kernel
theorem dX7_isWords_54 : decode cX7_isWords 54 = .ok (.aload_n 0, 1) := by decide +kernel
theorem dX7_isWords_55 : decode cX7_isWords 55 = .ok (.dup, 1) := by decide +kernel
theorem dX7_isWords_56 : decode cX7_isWords 56 = .ok (.getfield 38, 3) := by decide +kernel
theorem dX7_isWords_59 : decode cX7_isWords 59 = .ok (.iconst 1, 1) := by decide +kernel
theorem dX7_isWords_60 : decode cX7_isWords 60 = .ok (.iadd, 1) := by decide +kernel
theorem dX7_isWords_61 : decode cX7_isWords 61 = .ok (.putfield 38, 3) := by decide +kernel
theorem dX7_isWords_64 : decode cX7_isWords 64 = .ok (.goto (-49), 3) := by decide +kernel
theorem dX7_isWords_39 : decode cX7_isWords 39 = .ok (.aload_n 0, 1) := by decide +kernel
theorem dX7_isWords_40 : decode cX7_isWords 40 = .ok (.aload_n 0, 1) := by decide +kernel
theorem dX7_isWords_41 : decode cX7_isWords 41 = .ok (.getfield 38, 3) := by decide +kernel
theorem dX7_isWords_44 : decode cX7_isWords 44 = .ok (.invokevirtual 41, 3) := by decide +kernel
theorem dX7_isWords_47 : decode cX7_isWords 47 = .ok (.invokestatic 49, 3) := by decide +kernel
theorem dX7_isWords_50 : decode cX7_isWords 50 = .ok (.iconst 1, 1) := by decide +kernel
theorem dX7_isWords_51 : decode cX7_isWords 51 = .ok (.if_icmp .ne 16, 3) := by decide +kernel
theorem dX4_isThere_0 : decode cX4_isThere 0 = .ok (.aload_n 0, 1) := by decide +kernel
theorem dX4_isThere_1 : decode cX4_isThere 1 = .ok (.getfield 18, 3) := by decide +kernel
theorem dX4_isThere_4 : decode cX4_isThere 4 = .ok (.ifCond .le 7, 3) := by decide +kernel
theorem dX4_isThere_11 : decode cX4_isThere 11 = .ok (.iconst 0, 1) := by decide +kernel
theorem dX4_isThere_12 : decode cX4_isThere 12 = .ok (.ireturn, 1) := by decide +kernel
theorem dX4_isThere_7 : decode cX4_isThere 7 = .ok (.iconst 1, 1) := by decide +kernel
theorem dX4_isThere_8 : decode cX4_isThere 8 = .ok (.goto 4, 3) := by decide +kernel
theorem dX4_places_0 : decode cX4_places 0 = .ok (.aload_n 0, 1) := by decide +kernel
theorem dX4_places_1 : decode cX4_places 1 = .ok (.getfield 22, 3) := by decide +kernel
theorem dX4_places_4 : decode cX4_places 4 = .ok (.aload_n 0, 1) := by decide +kernel
theorem dX4_places_5 : decode cX4_places 5 = .ok (.getfield 18, 3) := by decide +kernel
theorem dX4_places_8 : decode cX4_places 8 = .ok (.imul, 1) := by decide +kernel
theorem dX4_places_9 : decode cX4_places 9 = .ok (.ireturn, 1) := by decide +kernel
theorem dX4_placeOf_0 : decode cX4_placeOf 0 = .ok (.iload_n 1, 1) := by decide +kernel
theorem dX4_placeOf_1 : decode cX4_placeOf 1 = .ok (.ifCond .lt 23, 3) := by decide +kernel
theorem dX4_placeOf_24 : decode cX4_placeOf 24 = .ok (.iconst (-1), 1) := by decide +kernel
theorem dX4_placeOf_25 : decode cX4_placeOf 25 = .ok (.ireturn, 1) := by decide +kernel
theorem dX4_placeOf_4 : decode cX4_placeOf 4 = .ok (.iload_n 1, 1) := by decide +kernel
theorem dX4_placeOf_5 : decode cX4_placeOf 5 = .ok (.aload_n 0, 1) := by decide +kernel
theorem dX4_placeOf_6 : decode cX4_placeOf 6 = .ok (.getfield 18, 3) := by decide +kernel
theorem dX4_placeOf_9 : decode cX4_placeOf 9 = .ok (.if_icmp .ge 15, 3) := by decide +kernel
theorem dX4_placeOf_12 : decode cX4_placeOf 12 = .ok (.iload_n 2, 1) := by decide +kernel
theorem dX4_placeOf_13 : decode cX4_placeOf 13 = .ok (.ifCond .lt 11, 3) := by decide +kernel
theorem dX4_placeOf_16 : decode cX4_placeOf 16 = .ok (.iload_n 2, 1) := by decide +kernel
theorem dX4_placeOf_17 : decode cX4_placeOf 17 = .ok (.aload_n 0, 1) := by decide +kernel
theorem dX4_placeOf_18 : decode cX4_placeOf 18 = .ok (.getfield 22, 3) := by decide +kernel
theorem dX4_placeOf_21 : decode cX4_placeOf 21 = .ok (.if_icmp .lt 5, 3) := by decide +kernel
theorem dX4_placeOf_26 : decode cX4_placeOf 26 = .ok (.iload_n 1, 1) := by decide +kernel
theorem dX4_placeOf_27 : decode cX4_placeOf 27 = .ok (.aload_n 0, 1) := by decide +kernel
theorem dX4_placeOf_28 : decode cX4_placeOf 28 = .ok (.getfield 22, 3) := by decide +kernel
theorem dX4_placeOf_31 : decode cX4_placeOf 31 = .ok (.imul, 1) := by decide +kernel
theorem dX4_placeOf_32 : decode cX4_placeOf 32 = .ok (.iload_n 2, 1) := by decide +kernel
theorem dX4_placeOf_33 : decode cX4_placeOf 33 = .ok (.iadd, 1) := by decide +kernel
theorem dX4_placeOf_34 : decode cX4_placeOf 34 = .ok (.ireturn, 1) := by decide +kernel
theorem dX4_rowOf_0 : decode cX4_rowOf 0 = .ok (.aload_n 0, 1) := by decide +kernel
theorem dX4_rowOf_1 : decode cX4_rowOf 1 = .ok (.getfield 22, 3) := by decide +kernel
theorem dX4_rowOf_4 : decode cX4_rowOf 4 = .ok (.ifCond .le 12, 3) := by decide +kernel
theorem dX4_rowOf_16 : decode cX4_rowOf 16 = .ok (.iconst 0, 1) := by decide +kernel
theorem dX4_rowOf_17 : decode cX4_rowOf 17 = .ok (.ireturn, 1) := by decide +kernel
theorem dX4_rowOf_7 : decode cX4_rowOf 7 = .ok (.iload_n 1, 1) := by decide +kernel
theorem dX4_rowOf_8 : decode cX4_rowOf 8 = .ok (.aload_n 0, 1) := by decide +kernel
theorem dX4_rowOf_9 : decode cX4_rowOf 9 = .ok (.getfield 22, 3) := by decide +kernel
theorem dX4_rowOf_12 : decode cX4_rowOf 12 = .ok (.idiv, 1) := by decide +kernel
theorem dX4_rowOf_13 : decode cX4_rowOf 13 = .ok (.goto 4, 3) := by decide +kernel
theorem dX4_columnOf_0 : decode cX4_columnOf 0 = .ok (.aload_n 0, 1) := by decide +kernel
theorem dX4_columnOf_1 : decode cX4_columnOf 1 = .ok (.getfield 22, 3) := by decide +kernel
theorem dX4_columnOf_4 : decode cX4_columnOf 4 = .ok (.ifCond .le 12, 3) := by decide +kernel
theorem dX4_columnOf_16 : decode cX4_columnOf 16 = .ok (.iconst 0, 1) := by decide +kernel
theorem dX4_columnOf_17 : decode cX4_columnOf 17 = .ok (.ireturn, 1) := by decide +kernel
theorem dX4_columnOf_7 : decode cX4_columnOf 7 = .ok (.iload_n 1, 1) := by decide +kernel
theorem dX4_columnOf_8 : decode cX4_columnOf 8 = .ok (.aload_n 0, 1) := by decide +kernel
theorem dX4_columnOf_9 : decode cX4_columnOf 9 = .ok (.getfield 22, 3) := by decide +kernel
theorem dX4_columnOf_12 : decode cX4_columnOf 12 = .ok (.irem, 1) := by decide +kernel
theorem dX4_columnOf_13 : decode cX4_columnOf 13 = .ok (.goto 4, 3) := by decide +kernel
theorem dX4_sortAt_0 : decode cX4_sortAt 0 = .ok (.iload_n 1, 1) := by decide +kernel
theorem dX4_sortAt_1 : decode cX4_sortAt 1 = .ok (.ifCond .lt 32, 3) := by decide +kernel
theorem dX4_sortAt_33 : decode cX4_sortAt 33 = .ok (.iconst (-1), 1) := by decide +kernel
theorem dX4_sortAt_34 : decode cX4_sortAt 34 = .ok (.ireturn, 1) := by decide +kernel
theorem dX4_sortAt_4 : decode cX4_sortAt 4 = .ok (.iload_n 1, 1) := by decide +kernel
theorem dX4_sortAt_5 : decode cX4_sortAt 5 = .ok (.aload_n 0, 1) := by decide +kernel
theorem dX4_sortAt_6 : decode cX4_sortAt 6 = .ok (.getfield 22, 3) := by decide +kernel
theorem dX4_sortAt_9 : decode cX4_sortAt 9 = .ok (.aload_n 0, 1) := by decide +kernel
theorem dX4_sortAt_10 : decode cX4_sortAt 10 = .ok (.getfield 18, 3) := by decide +kernel
theorem dX4_sortAt_13 : decode cX4_sortAt 13 = .ok (.imul, 1) := by decide +kernel
theorem dX4_sortAt_14 : decode cX4_sortAt 14 = .ok (.if_icmp .ge 19, 3) := by decide +kernel
theorem dX4_sortAt_17 : decode cX4_sortAt 17 = .ok (.iload_n 1, 1) := by decide +kernel
theorem dX4_sortAt_18 : decode cX4_sortAt 18 = .ok (.sipush 256, 3) := by decide +kernel
theorem dX4_sortAt_21 : decode cX4_sortAt 21 = .ok (.if_icmp .ge 12, 3) := by decide +kernel
theorem dX4_sortAt_24 : decode cX4_sortAt 24 = .ok (.aload_n 0, 1) := by decide +kernel
theorem dX4_sortAt_25 : decode cX4_sortAt 25 = .ok (.getfield 9, 3) := by decide +kernel
theorem dX4_sortAt_28 : decode cX4_sortAt 28 = .ok (.iload_n 1, 1) := by decide +kernel
theorem dX4_sortAt_29 : decode cX4_sortAt 29 = .ok (.iaload, 1) := by decide +kernel
theorem dX4_sortAt_30 : decode cX4_sortAt 30 = .ok (.goto 4, 3) := by decide +kernel
theorem dX4_freePlace_0 : decode cX4_freePlace 0 = .ok (.iload_n 1, 1) := by decide +kernel
theorem dX4_freePlace_1 : decode cX4_freePlace 1 = .ok (.ifCond .lt 27, 3) := by decide +kernel
theorem dX4_freePlace_28 : decode cX4_freePlace 28 = .ok (.iconst (-1), 1) := by decide +kernel
theorem dX4_freePlace_29 : decode cX4_freePlace 29 = .ok (.ireturn, 1) := by decide +kernel
theorem dX4_freePlace_4 : decode cX4_freePlace 4 = .ok (.iload_n 1, 1) := by decide +kernel
theorem dX4_freePlace_5 : decode cX4_freePlace 5 = .ok (.aload_n 0, 1) := by decide +kernel
theorem dX4_freePlace_6 : decode cX4_freePlace 6 = .ok (.getfield 25, 3) := by decide +kernel
theorem dX4_freePlace_9 : decode cX4_freePlace 9 = .ok (.if_icmp .ge 19, 3) := by decide +kernel
theorem dX4_freePlace_12 : decode cX4_freePlace 12 = .ok (.iload_n 1, 1) := by decide +kernel
theorem dX4_freePlace_13 : decode cX4_freePlace 13 = .ok (.sipush 256, 3) := by decide +kernel
theorem dX4_freePlace_16 : decode cX4_freePlace 16 = .ok (.if_icmp .ge 12, 3) := by decide +kernel
theorem dX4_freePlace_19 : decode cX4_freePlace 19 = .ok (.aload_n 0, 1) := by decide +kernel
theorem dX4_freePlace_20 : decode cX4_freePlace 20 = .ok (.getfield 15, 3) := by decide +kernel
theorem dX4_freePlace_23 : decode cX4_freePlace 23 = .ok (.iload_n 1, 1) := by decide +kernel
theorem dX4_freePlace_24 : decode cX4_freePlace 24 = .ok (.iaload, 1) := by decide +kernel
theorem dX4_freePlace_25 : decode cX4_freePlace 25 = .ok (.goto 4, 3) := by decide +kernel
theorem dX4_notPlainAt_0 : decode cX4_notPlainAt 0 = .ok (.aload_n 0, 1) := by decide +kernel
theorem dX4_notPlainAt_1 : decode cX4_notPlainAt 1 = .ok (.iload_n 1, 1) := by decide +kernel
theorem dX4_notPlainAt_2 : decode cX4_notPlainAt 2 = .ok (.invokevirtual 28, 3) := by decide +kernel
theorem dX4_notPlainAt_5 : decode cX4_notPlainAt 5 = .ok (.tableswitch 33 2 4 #[27, 29, 31], 27) := by decide +kernel
theorem dX4_notPlainAt_32 : decode cX4_notPlainAt 32 = .ok (.iconst 1, 1) := by decide +kernel
theorem dX4_notPlainAt_33 : decode cX4_notPlainAt 33 = .ok (.ireturn, 1) := by decide +kernel
theorem dX4_notPlainAt_34 : decode cX4_notPlainAt 34 = .ok (.iconst 2, 1) := by decide +kernel
theorem dX4_notPlainAt_35 : decode cX4_notPlainAt 35 = .ok (.ireturn, 1) := by decide +kernel
theorem dX4_notPlainAt_36 : decode cX4_notPlainAt 36 = .ok (.iconst 3, 1) := by decide +kernel
theorem dX4_notPlainAt_37 : decode cX4_notPlainAt 37 = .ok (.ireturn, 1) := by decide +kernel
theorem dX4_notPlainAt_38 : decode cX4_notPlainAt 38 = .ok (.iconst 0, 1) := by decide +kernel
theorem dX4_notPlainAt_39 : decode cX4_notPlainAt 39 = .ok (.ireturn, 1) := by decide +kernel
theorem dX4_turnedOver_0 : decode cX4_turnedOver 0 = .ok (.iload_n 2, 1) := by decide +kernel
theorem dX4_turnedOver_1 : decode cX4_turnedOver 1 = .ok (.ifCond .ne 11, 3) := by decide +kernel
theorem dX4_turnedOver_12 : decode cX4_turnedOver 12 = .ok (.iconst 0, 1) := by decide +kernel
theorem dX4_turnedOver_13 : decode cX4_turnedOver 13 = .ok (.ireturn, 1) := by decide +kernel
theorem dX4_turnedOver_4 : decode cX4_turnedOver 4 = .ok (.aload_n 0, 1) := by decide +kernel
theorem dX4_turnedOver_5 : decode cX4_turnedOver 5 = .ok (.iload_n 1, 1) := by decide +kernel
theorem dX4_turnedOver_6 : decode cX4_turnedOver 6 = .ok (.invokevirtual 32, 3) := by decide +kernel
theorem dX4_turnedOver_9 : decode cX4_turnedOver 9 = .ok (.goto 4, 3) := by decide +kernel
theorem dX4_knittedAs_0 : decode cX4_knittedAs 0 = .ok (.aload_n 0, 1) := by decide +kernel
theorem dX4_knittedAs_1 : decode cX4_knittedAs 1 = .ok (.iload_n 1, 1) := by decide +kernel
theorem dX4_knittedAs_2 : decode cX4_knittedAs 2 = .ok (.invokevirtual 35, 3) := by decide +kernel
theorem dX4_knittedAs_5 : decode cX4_knittedAs 5 = .ok (.istore_n 2, 1) := by decide +kernel
theorem dX4_knittedAs_6 : decode cX4_knittedAs 6 = .ok (.aload_n 0, 1) := by decide +kernel
theorem dX4_knittedAs_7 : decode cX4_knittedAs 7 = .ok (.iload_n 1, 1) := by decide +kernel
theorem dX4_knittedAs_8 : decode cX4_knittedAs 8 = .ok (.invokevirtual 38, 3) := by decide +kernel
theorem dX4_knittedAs_11 : decode cX4_knittedAs 11 = .ok (.istore_n 3, 1) := by decide +kernel
theorem dX4_knittedAs_12 : decode cX4_knittedAs 12 = .ok (.aload_n 0, 1) := by decide +kernel
theorem dX4_knittedAs_13 : decode cX4_knittedAs 13 = .ok (.iload_n 2, 1) := by decide +kernel
theorem dX4_knittedAs_14 : decode cX4_knittedAs 14 = .ok (.iload_n 2, 1) := by decide +kernel
theorem dX4_knittedAs_15 : decode cX4_knittedAs 15 = .ok (.iconst 2, 1) := by decide +kernel
theorem dX4_knittedAs_16 : decode cX4_knittedAs 16 = .ok (.irem, 1) := by decide +kernel
theorem dX4_knittedAs_17 : decode cX4_knittedAs 17 = .ok (.ifCond .ne 7, 3) := by decide +kernel
theorem dX4_knittedAs_24 : decode cX4_knittedAs 24 = .ok (.aload_n 0, 1) := by decide +kernel
theorem dX4_knittedAs_25 : decode cX4_knittedAs 25 = .ok (.getfield 22, 3) := by decide +kernel
theorem dX4_knittedAs_28 : decode cX4_knittedAs 28 = .ok (.iconst 1, 1) := by decide +kernel
theorem dX4_knittedAs_29 : decode cX4_knittedAs 29 = .ok (.isub, 1) := by decide +kernel
theorem dX4_knittedAs_30 : decode cX4_knittedAs 30 = .ok (.iload_n 3, 1) := by decide +kernel
theorem dX4_knittedAs_31 : decode cX4_knittedAs 31 = .ok (.isub, 1) := by decide +kernel
theorem dX4_knittedAs_32 : decode cX4_knittedAs 32 = .ok (.invokevirtual 41, 3) := by decide +kernel
theorem dX4_knittedAs_35 : decode cX4_knittedAs 35 = .ok (.ireturn, 1) := by decide +kernel
theorem dX4_knittedAs_20 : decode cX4_knittedAs 20 = .ok (.iload_n 3, 1) := by decide +kernel
theorem dX4_knittedAs_21 : decode cX4_knittedAs 21 = .ok (.goto 11, 3) := by decide +kernel
theorem dX4_takeFrom_0 : decode cX4_takeFrom 0 = .ok (.aload_n 1, 1) := by decide +kernel
theorem dX4_takeFrom_1 : decode cX4_takeFrom 1 = .ok (.getfield 9, 3) := by decide +kernel
theorem dX4_takeFrom_4 : decode cX4_takeFrom 4 = .ok (.iconst 0, 1) := by decide +kernel
theorem dX4_takeFrom_5 : decode cX4_takeFrom 5 = .ok (.aload_n 0, 1) := by decide +kernel
theorem dX4_takeFrom_6 : decode cX4_takeFrom 6 = .ok (.getfield 9, 3) := by decide +kernel
theorem dX4_takeFrom_9 : decode cX4_takeFrom 9 = .ok (.iconst 0, 1) := by decide +kernel
theorem dX4_takeFrom_10 : decode cX4_takeFrom 10 = .ok (.sipush 256, 3) := by decide +kernel
theorem dX4_takeFrom_13 : decode cX4_takeFrom 13 = .ok (.invokestatic 45, 3) := by decide +kernel
theorem dX4_takeFrom_16 : decode cX4_takeFrom 16 = .ok (.aload_n 1, 1) := by decide +kernel
theorem dX4_takeFrom_17 : decode cX4_takeFrom 17 = .ok (.getfield 15, 3) := by decide +kernel
theorem dX4_takeFrom_20 : decode cX4_takeFrom 20 = .ok (.iconst 0, 1) := by decide +kernel
theorem dX4_takeFrom_21 : decode cX4_takeFrom 21 = .ok (.aload_n 0, 1) := by decide +kernel
theorem dX4_takeFrom_22 : decode cX4_takeFrom 22 = .ok (.getfield 15, 3) := by decide +kernel
theorem dX4_takeFrom_25 : decode cX4_takeFrom 25 = .ok (.iconst 0, 1) := by decide +kernel
theorem dX4_takeFrom_26 : decode cX4_takeFrom 26 = .ok (.sipush 256, 3) := by decide +kernel
theorem dX4_takeFrom_29 : decode cX4_takeFrom 29 = .ok (.invokestatic 45, 3) := by decide +kernel
theorem dX4_takeFrom_32 : decode cX4_takeFrom 32 = .ok (.aload_n 0, 1) := by decide +kernel
theorem dX4_takeFrom_33 : decode cX4_takeFrom 33 = .ok (.aload_n 1, 1) := by decide +kernel
theorem dX4_takeFrom_34 : decode cX4_takeFrom 34 = .ok (.getfield 22, 3) := by decide +kernel
theorem dX4_takeFrom_37 : decode cX4_takeFrom 37 = .ok (.putfield 22, 3) := by decide +kernel
theorem dX4_takeFrom_40 : decode cX4_takeFrom 40 = .ok (.aload_n 0, 1) := by decide +kernel
theorem dX4_takeFrom_41 : decode cX4_takeFrom 41 = .ok (.aload_n 1, 1) := by decide +kernel
theorem dX4_takeFrom_42 : decode cX4_takeFrom 42 = .ok (.getfield 18, 3) := by decide +kernel
theorem dX4_takeFrom_45 : decode cX4_takeFrom 45 = .ok (.putfield 18, 3) := by decide +kernel
theorem dX4_takeFrom_48 : decode cX4_takeFrom 48 = .ok (.aload_n 0, 1) := by decide +kernel
theorem dX4_takeFrom_49 : decode cX4_takeFrom 49 = .ok (.aload_n 1, 1) := by decide +kernel
theorem dX4_takeFrom_50 : decode cX4_takeFrom 50 = .ok (.getfield 25, 3) := by decide +kernel
theorem dX4_takeFrom_53 : decode cX4_takeFrom 53 = .ok (.putfield 25, 3) := by decide +kernel
theorem dX4_takeFrom_56 : decode cX4_takeFrom 56 = .ok (.return_, 1) := by decide +kernel
theorem dX4_setSort_0 : decode cX4_setSort 0 = .ok (.iload_n 1, 1) := by decide +kernel
theorem dX4_setSort_1 : decode cX4_setSort 1 = .ok (.ifCond .lt 17, 3) := by decide +kernel
theorem dX4_setSort_18 : decode cX4_setSort 18 = .ok (.return_, 1) := by decide +kernel
theorem dX4_setSort_4 : decode cX4_setSort 4 = .ok (.iload_n 1, 1) := by decide +kernel
theorem dX4_setSort_5 : decode cX4_setSort 5 = .ok (.sipush 256, 3) := by decide +kernel
theorem dX4_setSort_8 : decode cX4_setSort 8 = .ok (.if_icmp .ge 10, 3) := by decide +kernel
theorem dX4_setSort_11 : decode cX4_setSort 11 = .ok (.aload_n 0, 1) := by decide +kernel
theorem dX4_setSort_12 : decode cX4_setSort 12 = .ok (.getfield 9, 3) := by decide +kernel
theorem dX4_setSort_15 : decode cX4_setSort 15 = .ok (.iload_n 1, 1) := by decide +kernel
theorem dX4_setSort_16 : decode cX4_setSort 16 = .ok (.iload_n 2, 1) := by decide +kernel
theorem dX4_setSort_17 : decode cX4_setSort 17 = .ok (.iastore, 1) := by decide +kernel
theorem dX4_fillRow_0 : decode cX4_fillRow 0 = .ok (.aload_n 1, 1) := by decide +kernel
theorem dX4_fillRow_1 : decode cX4_fillRow 1 = .ok (.invokevirtual 101, 3) := by decide +kernel
theorem dX4_fillRow_4 : decode cX4_fillRow 4 = .ok (.istore_n 3, 1) := by decide +kernel
theorem dX4_fillRow_5 : decode cX4_fillRow 5 = .ok (.iconst 0, 1) := by decide +kernel
theorem dX4_fillRow_6 : decode cX4_fillRow 6 = .ok (.istore 4, 2) := by decide +kernel
theorem dX4_fillRow_8 : decode cX4_fillRow 8 = .ok (.iload 4, 2) := by decide +kernel
theorem dX4_fillRow_10 : decode cX4_fillRow 10 = .ok (.aload_n 0, 1) := by decide +kernel
theorem dX4_fillRow_11 : decode cX4_fillRow 11 = .ok (.getfield 22, 3) := by decide +kernel
theorem dX4_fillRow_14 : decode cX4_fillRow 14 = .ok (.if_icmp .ge 34, 3) := by decide +kernel
theorem dX4_fillRow_48 : decode cX4_fillRow 48 = .ok (.return_, 1) := by decide +kernel
theorem dX4_fillRow_17 : decode cX4_fillRow 17 = .ok (.iload_n 3, 1) := by decide +kernel
theorem dX4_fillRow_18 : decode cX4_fillRow 18 = .ok (.ifCond .le 30, 3) := by decide +kernel
theorem dX4_fillRow_21 : decode cX4_fillRow 21 = .ok (.aload_n 0, 1) := by decide +kernel
theorem dX4_fillRow_22 : decode cX4_fillRow 22 = .ok (.aload_n 0, 1) := by decide +kernel
theorem dX4_fillRow_23 : decode cX4_fillRow 23 = .ok (.iload_n 2, 1) := by decide +kernel
theorem dX4_fillRow_24 : decode cX4_fillRow 24 = .ok (.iload 4, 2) := by decide +kernel
theorem dX4_fillRow_26 : decode cX4_fillRow 26 = .ok (.invokevirtual 41, 3) := by decide +kernel
theorem dX4_fillRow_29 : decode cX4_fillRow 29 = .ok (.aload_n 1, 1) := by decide +kernel
theorem dX4_fillRow_30 : decode cX4_fillRow 30 = .ok (.iload 4, 2) := by decide +kernel
theorem dX4_fillRow_32 : decode cX4_fillRow 32 = .ok (.iload_n 3, 1) := by decide +kernel
theorem dX4_fillRow_33 : decode cX4_fillRow 33 = .ok (.irem, 1) := by decide +kernel
theorem dX4_fillRow_34 : decode cX4_fillRow 34 = .ok (.ldc 96, 2) := by decide +kernel
theorem dX4_fillRow_36 : decode cX4_fillRow 36 = .ok (.invokevirtual 111, 3) := by decide +kernel
theorem dX4_fillRow_39 : decode cX4_fillRow 39 = .ok (.invokevirtual 115, 3) := by decide +kernel
theorem dX4_fillRow_42 : decode cX4_fillRow 42 = .ok (.iinc 4 1, 3) := by decide +kernel
theorem dX4_fillRow_45 : decode cX4_fillRow 45 = .ok (.goto (-37), 3) := by decide +kernel
theorem dX4_tellRow_0 : decode cX4_tellRow 0 = .ok (.iload_n 2, 1) := by decide +kernel
theorem dX4_tellRow_1 : decode cX4_tellRow 1 = .ok (.bipush 8, 2) := by decide +kernel
theorem dX4_tellRow_20 : decode cX4_tellRow 20 = .ok (.aload_n 1, 1) := by decide +kernel
theorem dX4_tellRow_21 : decode cX4_tellRow 21 = .ok (.ldc 87, 2) := by decide +kernel
theorem dX4_tellRow_23 : decode cX4_tellRow 23 = .ok (.invokevirtual 57, 3) := by decide +kernel
theorem dX4_tellRow_26 : decode cX4_tellRow 26 = .ok (.aload_n 1, 1) := by decide +kernel
theorem dX4_tellRow_27 : decode cX4_tellRow 27 = .ok (.ldc 96, 2) := by decide +kernel
theorem dX4_tellRow_29 : decode cX4_tellRow 29 = .ok (.invokevirtual 98, 3) := by decide +kernel
theorem dX4_tellRow_32 : decode cX4_tellRow 32 = .ok (.ifCond .eq 25, 3) := by decide +kernel
theorem dX4_tellRow_57 : decode cX4_tellRow 57 = .ok (.aload_n 1, 1) := by decide +kernel
theorem dX4_tellRow_58 : decode cX4_tellRow 58 = .ok (.iconst 1, 1) := by decide +kernel
theorem dX4_tellRow_59 : decode cX4_tellRow 59 = .ok (.invokevirtual 93, 3) := by decide +kernel
theorem dX4_tellRow_62 : decode cX4_tellRow 62 = .ok (.aload_n 1, 1) := by decide +kernel
theorem dX4_tellRow_63 : decode cX4_tellRow 63 = .ok (.invokevirtual 66, 3) := by decide +kernel
theorem dX4_tellRow_66 : decode cX4_tellRow 66 = .ok (.return_, 1) := by decide +kernel
theorem dX4_tellRow_35 : decode cX4_tellRow 35 = .ok (.aload_n 1, 1) := by decide +kernel
theorem dX4_tellRow_36 : decode cX4_tellRow 36 = .ok (.invokevirtual 101, 3) := by decide +kernel
theorem dX4_tellRow_39 : decode cX4_tellRow 39 = .ok (.bipush 12, 2) := by decide +kernel
theorem dX4_tellRow_41 : decode cX4_tellRow 41 = .ok (.if_icmp .gt 16, 3) := by decide +kernel
theorem dX4_tellRow_44 : decode cX4_tellRow 44 = .ok (.aload_n 0, 1) := by decide +kernel
theorem dX4_tellRow_45 : decode cX4_tellRow 45 = .ok (.aload_n 1, 1) := by decide +kernel
theorem dX4_tellRow_46 : decode cX4_tellRow 46 = .ok (.iload_n 2, 1) := by decide +kernel
theorem dX4_tellRow_47 : decode cX4_tellRow 47 = .ok (.invokevirtual 105, 3) := by decide +kernel
theorem dX4_tellRow_50 : decode cX4_tellRow 50 = .ok (.aload_n 1, 1) := by decide +kernel
theorem dX4_tellRow_51 : decode cX4_tellRow 51 = .ok (.invokevirtual 108, 3) := by decide +kernel
theorem dX4_tellRow_54 : decode cX4_tellRow 54 = .ok (.goto 8, 3) := by decide +kernel
theorem dX4_tellRow_3 : decode cX4_tellRow 3 = .ok (.if_icmp .ne 17, 3) := by decide +kernel
theorem dX4_tellRow_6 : decode cX4_tellRow 6 = .ok (.aload_n 1, 1) := by decide +kernel
theorem dX4_tellRow_7 : decode cX4_tellRow 7 = .ok (.ldc 87, 2) := by decide +kernel
theorem dX4_tellRow_9 : decode cX4_tellRow 9 = .ok (.invokevirtual 89, 3) := by decide +kernel
theorem dX4_tellRow_12 : decode cX4_tellRow 12 = .ok (.ifCond .eq 8, 3) := by decide +kernel
theorem dX4_tellRow_15 : decode cX4_tellRow 15 = .ok (.aload_n 1, 1) := by decide +kernel
theorem dX4_tellRow_16 : decode cX4_tellRow 16 = .ok (.iconst 3, 1) := by decide +kernel
theorem dX4_tellRow_17 : decode cX4_tellRow 17 = .ok (.invokevirtual 93, 3) := by decide +kernel
theorem dX4_repeatRows_0 : decode cX4_repeatRows 0 = .ok (.iload_n 1, 1) := by decide +kernel
theorem dX4_repeatRows_1 : decode cX4_repeatRows 1 = .ok (.istore_n 2, 1) := by decide +kernel
theorem dX4_repeatRows_2 : decode cX4_repeatRows 2 = .ok (.iload_n 2, 1) := by decide +kernel
theorem dX4_repeatRows_3 : decode cX4_repeatRows 3 = .ok (.aload_n 0, 1) := by decide +kernel
theorem dX4_repeatRows_4 : decode cX4_repeatRows 4 = .ok (.getfield 18, 3) := by decide +kernel
theorem dX4_repeatRows_7 : decode cX4_repeatRows 7 = .ok (.if_icmp .ge 47, 3) := by decide +kernel
theorem dX4_repeatRows_54 : decode cX4_repeatRows 54 = .ok (.return_, 1) := by decide +kernel
theorem dX4_repeatRows_10 : decode cX4_repeatRows 10 = .ok (.iconst 0, 1) := by decide +kernel
theorem dX4_repeatRows_11 : decode cX4_repeatRows 11 = .ok (.istore_n 3, 1) := by decide +kernel
theorem dX4_repeatRows_12 : decode cX4_repeatRows 12 = .ok (.iload_n 3, 1) := by decide +kernel
theorem dX4_repeatRows_13 : decode cX4_repeatRows 13 = .ok (.aload_n 0, 1) := by decide +kernel
theorem dX4_repeatRows_14 : decode cX4_repeatRows 14 = .ok (.getfield 22, 3) := by decide +kernel
theorem dX4_repeatRows_17 : decode cX4_repeatRows 17 = .ok (.if_icmp .ge 31, 3) := by decide +kernel
theorem dX4_repeatRows_48 : decode cX4_repeatRows 48 = .ok (.iinc 2 1, 3) := by decide +kernel
theorem dX4_repeatRows_51 : decode cX4_repeatRows 51 = .ok (.goto (-49), 3) := by decide +kernel
theorem dX4_repeatRows_20 : decode cX4_repeatRows 20 = .ok (.aload_n 0, 1) := by decide +kernel
theorem dX4_repeatRows_21 : decode cX4_repeatRows 21 = .ok (.aload_n 0, 1) := by decide +kernel
theorem dX4_repeatRows_22 : decode cX4_repeatRows 22 = .ok (.iload_n 2, 1) := by decide +kernel
theorem dX4_repeatRows_23 : decode cX4_repeatRows 23 = .ok (.iload_n 3, 1) := by decide +kernel
theorem dX4_repeatRows_24 : decode cX4_repeatRows 24 = .ok (.invokevirtual 41, 3) := by decide +kernel
theorem dX4_repeatRows_27 : decode cX4_repeatRows 27 = .ok (.aload_n 0, 1) := by decide +kernel
theorem dX4_repeatRows_28 : decode cX4_repeatRows 28 = .ok (.aload_n 0, 1) := by decide +kernel
theorem dX4_repeatRows_29 : decode cX4_repeatRows 29 = .ok (.iload_n 2, 1) := by decide +kernel
theorem dX4_repeatRows_30 : decode cX4_repeatRows 30 = .ok (.iload_n 1, 1) := by decide +kernel
theorem dX4_repeatRows_31 : decode cX4_repeatRows 31 = .ok (.isub, 1) := by decide +kernel
theorem dX4_repeatRows_32 : decode cX4_repeatRows 32 = .ok (.iload_n 3, 1) := by decide +kernel
theorem dX4_repeatRows_33 : decode cX4_repeatRows 33 = .ok (.invokevirtual 41, 3) := by decide +kernel
theorem dX4_repeatRows_36 : decode cX4_repeatRows 36 = .ok (.invokevirtual 28, 3) := by decide +kernel
theorem dX4_repeatRows_39 : decode cX4_repeatRows 39 = .ok (.invokevirtual 115, 3) := by decide +kernel
theorem dX4_repeatRows_42 : decode cX4_repeatRows 42 = .ok (.iinc 3 1, 3) := by decide +kernel
theorem dX4_repeatRows_45 : decode cX4_repeatRows 45 = .ok (.goto (-33), 3) := by decide +kernel
theorem dX4_listFreePlaces_0 : decode cX4_listFreePlaces 0 = .ok (.aload_n 0, 1) := by decide +kernel
theorem dX4_listFreePlaces_1 : decode cX4_listFreePlaces 1 = .ok (.iconst 0, 1) := by decide +kernel
theorem dX4_listFreePlaces_2 : decode cX4_listFreePlaces 2 = .ok (.putfield 25, 3) := by decide +kernel
theorem dX4_listFreePlaces_5 : decode cX4_listFreePlaces 5 = .ok (.iconst 0, 1) := by decide +kernel
theorem dX4_listFreePlaces_6 : decode cX4_listFreePlaces 6 = .ok (.istore_n 1, 1) := by decide +kernel
theorem dX4_listFreePlaces_7 : decode cX4_listFreePlaces 7 = .ok (.iload_n 1, 1) := by decide +kernel
theorem dX4_listFreePlaces_8 : decode cX4_listFreePlaces 8 = .ok (.aload_n 0, 1) := by decide +kernel
theorem dX4_listFreePlaces_9 : decode cX4_listFreePlaces 9 = .ok (.invokevirtual 119, 3) := by decide +kernel
theorem dX4_listFreePlaces_12 : decode cX4_listFreePlaces 12 = .ok (.if_icmp .ge 48, 3) := by decide +kernel
theorem dX4_listFreePlaces_60 : decode cX4_listFreePlaces 60 = .ok (.return_, 1) := by decide +kernel
theorem dX4_listFreePlaces_15 : decode cX4_listFreePlaces 15 = .ok (.aload_n 0, 1) := by decide +kernel
theorem dX4_listFreePlaces_16 : decode cX4_listFreePlaces 16 = .ok (.iload_n 1, 1) := by decide +kernel
theorem dX4_listFreePlaces_17 : decode cX4_listFreePlaces 17 = .ok (.invokevirtual 28, 3) := by decide +kernel
theorem dX4_listFreePlaces_20 : decode cX4_listFreePlaces 20 = .ok (.iconst 2, 1) := by decide +kernel
theorem dX4_listFreePlaces_21 : decode cX4_listFreePlaces 21 = .ok (.if_icmp .lt 33, 3) := by decide +kernel
theorem dX4_listFreePlaces_54 : decode cX4_listFreePlaces 54 = .ok (.iinc 1 1, 3) := by decide +kernel
theorem dX4_listFreePlaces_57 : decode cX4_listFreePlaces 57 = .ok (.goto (-50), 3) := by decide +kernel
theorem dX4_listFreePlaces_24 : decode cX4_listFreePlaces 24 = .ok (.aload_n 0, 1) := by decide +kernel
theorem dX4_listFreePlaces_25 : decode cX4_listFreePlaces 25 = .ok (.getfield 25, 3) := by decide +kernel
theorem dX4_listFreePlaces_28 : decode cX4_listFreePlaces 28 = .ok (.sipush 256, 3) := by decide +kernel
theorem dX4_listFreePlaces_31 : decode cX4_listFreePlaces 31 = .ok (.if_icmp .ge 23, 3) := by decide +kernel
theorem dX4_listFreePlaces_34 : decode cX4_listFreePlaces 34 = .ok (.aload_n 0, 1) := by decide +kernel
theorem dX4_listFreePlaces_35 : decode cX4_listFreePlaces 35 = .ok (.getfield 15, 3) := by decide +kernel
theorem dX4_listFreePlaces_38 : decode cX4_listFreePlaces 38 = .ok (.aload_n 0, 1) := by decide +kernel
theorem dX4_listFreePlaces_39 : decode cX4_listFreePlaces 39 = .ok (.getfield 25, 3) := by decide +kernel
theorem dX4_listFreePlaces_42 : decode cX4_listFreePlaces 42 = .ok (.iload_n 1, 1) := by decide +kernel
theorem dX4_listFreePlaces_43 : decode cX4_listFreePlaces 43 = .ok (.iastore, 1) := by decide +kernel
theorem dX4_listFreePlaces_44 : decode cX4_listFreePlaces 44 = .ok (.aload_n 0, 1) := by decide +kernel
theorem dX4_listFreePlaces_45 : decode cX4_listFreePlaces 45 = .ok (.dup, 1) := by decide +kernel
theorem dX4_listFreePlaces_46 : decode cX4_listFreePlaces 46 = .ok (.getfield 25, 3) := by decide +kernel
theorem dX4_listFreePlaces_49 : decode cX4_listFreePlaces 49 = .ok (.iconst 1, 1) := by decide +kernel
theorem dX4_listFreePlaces_50 : decode cX4_listFreePlaces 50 = .ok (.iadd, 1) := by decide +kernel
theorem dX4_listFreePlaces_51 : decode cX4_listFreePlaces 51 = .ok (.putfield 25, 3) := by decide +kernel
theorem dX4_tell_0 : decode cX4_tell 0 = .ok (.aload_n 1, 1) := by decide +kernel
theorem dX4_tell_1 : decode cX4_tell 1 = .ok (.invokevirtual 51, 3) := by decide +kernel
theorem dX4_tell_4 : decode cX4_tell 4 = .ok (.aload_n 1, 1) := by decide +kernel
theorem dX4_tell_5 : decode cX4_tell 5 = .ok (.ldc 56, 2) := by decide +kernel
theorem dX4_tell_7 : decode cX4_tell 7 = .ok (.invokevirtual 57, 3) := by decide +kernel
theorem dX4_tell_10 : decode cX4_tell 10 = .ok (.aload_n 0, 1) := by decide +kernel
theorem dX4_tell_11 : decode cX4_tell 11 = .ok (.aload_n 1, 1) := by decide +kernel
theorem dX4_tell_12 : decode cX4_tell 12 = .ok (.iconst 1, 1) := by decide +kernel
theorem dX4_tell_13 : decode cX4_tell 13 = .ok (.bipush 16, 2) := by decide +kernel
theorem dX4_tell_15 : decode cX4_tell 15 = .ok (.invokevirtual 61, 3) := by decide +kernel
theorem dX4_tell_18 : decode cX4_tell 18 = .ok (.putfield 22, 3) := by decide +kernel
theorem dX4_tell_21 : decode cX4_tell 21 = .ok (.aload_n 1, 1) := by decide +kernel
theorem dX4_tell_22 : decode cX4_tell 22 = .ok (.ldc 64, 2) := by decide +kernel
theorem dX4_tell_24 : decode cX4_tell 24 = .ok (.invokevirtual 57, 3) := by decide +kernel
theorem dX4_tell_27 : decode cX4_tell 27 = .ok (.aload_n 0, 1) := by decide +kernel
theorem dX4_tell_28 : decode cX4_tell 28 = .ok (.aload_n 1, 1) := by decide +kernel
theorem dX4_tell_29 : decode cX4_tell 29 = .ok (.iconst 1, 1) := by decide +kernel
theorem dX4_tell_30 : decode cX4_tell 30 = .ok (.bipush 16, 2) := by decide +kernel
theorem dX4_tell_32 : decode cX4_tell 32 = .ok (.invokevirtual 61, 3) := by decide +kernel
theorem dX4_tell_35 : decode cX4_tell 35 = .ok (.putfield 18, 3) := by decide +kernel
theorem dX4_tell_38 : decode cX4_tell 38 = .ok (.aload_n 1, 1) := by decide +kernel
theorem dX4_tell_39 : decode cX4_tell 39 = .ok (.invokevirtual 66, 3) := by decide +kernel
theorem dX4_tell_42 : decode cX4_tell 42 = .ok (.aload_n 0, 1) := by decide +kernel
theorem dX4_tell_43 : decode cX4_tell 43 = .ok (.aload_n 1, 1) := by decide +kernel
theorem dX4_tell_44 : decode cX4_tell 44 = .ok (.iconst 0, 1) := by decide +kernel
theorem dX4_tell_45 : decode cX4_tell 45 = .ok (.invokevirtual 69, 3) := by decide +kernel
theorem dX4_tell_48 : decode cX4_tell 48 = .ok (.iconst 1, 1) := by decide +kernel
theorem dX4_tell_49 : decode cX4_tell 49 = .ok (.istore_n 2, 1) := by decide +kernel
theorem dX4_tell_50 : decode cX4_tell 50 = .ok (.iload_n 2, 1) := by decide +kernel
theorem dX4_tell_51 : decode cX4_tell 51 = .ok (.bipush 8, 2) := by decide +kernel
theorem dX4_tell_75 : decode cX4_tell 75 = .ok (.aload_n 1, 1) := by decide +kernel
theorem dX4_tell_76 : decode cX4_tell 76 = .ok (.invokevirtual 77, 3) := by decide +kernel
theorem dX4_tell_79 : decode cX4_tell 79 = .ok (.ifCond .eq 12, 3) := by decide +kernel
theorem dX4_tell_91 : decode cX4_tell 91 = .ok (.aload_n 1, 1) := by decide +kernel
theorem dX4_tell_92 : decode cX4_tell 92 = .ok (.invokevirtual 77, 3) := by decide +kernel
theorem dX4_tell_95 : decode cX4_tell 95 = .ok (.ireturn, 1) := by decide +kernel
theorem dX4_tell_82 : decode cX4_tell 82 = .ok (.aload_n 0, 1) := by decide +kernel
theorem dX4_tell_83 : decode cX4_tell 83 = .ok (.iload_n 2, 1) := by decide +kernel
theorem dX4_tell_84 : decode cX4_tell 84 = .ok (.invokevirtual 80, 3) := by decide +kernel
theorem dX4_tell_87 : decode cX4_tell 87 = .ok (.aload_n 0, 1) := by decide +kernel
theorem dX4_tell_88 : decode cX4_tell 88 = .ok (.invokevirtual 84, 3) := by decide +kernel
theorem dX4_tell_53 : decode cX4_tell 53 = .ok (.if_icmp .gt 22, 3) := by decide +kernel
theorem dX4_tell_56 : decode cX4_tell 56 = .ok (.aload_n 1, 1) := by decide +kernel
theorem dX4_tell_57 : decode cX4_tell 57 = .ok (.invokevirtual 73, 3) := by decide +kernel
theorem dX4_tell_60 : decode cX4_tell 60 = .ok (.ifCond .eq 15, 3) := by decide +kernel
theorem dX4_tell_63 : decode cX4_tell 63 = .ok (.aload_n 0, 1) := by decide +kernel
theorem dX4_tell_64 : decode cX4_tell 64 = .ok (.aload_n 1, 1) := by decide +kernel
theorem dX4_tell_65 : decode cX4_tell 65 = .ok (.iload_n 2, 1) := by decide +kernel
theorem dX4_tell_66 : decode cX4_tell 66 = .ok (.invokevirtual 69, 3) := by decide +kernel
theorem dX4_tell_69 : decode cX4_tell 69 = .ok (.iinc 2 1, 3) := by decide +kernel
theorem dX4_tell_72 : decode cX4_tell 72 = .ok (.goto (-22), 3) := by decide +kernel
theorem dX10_takeFrom_0 : decode cX10_takeFrom 0 = .ok (.aload_n 0, 1) := by decide +kernel
theorem dX10_takeFrom_1 : decode cX10_takeFrom 1 = .ok (.aload_n 1, 1) := by decide +kernel
theorem dX10_takeFrom_2 : decode cX10_takeFrom 2 = .ok (.getfield 21, 3) := by decide +kernel
theorem dX10_takeFrom_5 : decode cX10_takeFrom 5 = .ok (.putfield 21, 3) := by decide +kernel
theorem dX10_takeFrom_8 : decode cX10_takeFrom 8 = .ok (.aload_n 0, 1) := by decide +kernel
theorem dX10_takeFrom_9 : decode cX10_takeFrom 9 = .ok (.aload_n 1, 1) := by decide +kernel
theorem dX10_takeFrom_10 : decode cX10_takeFrom 10 = .ok (.getfield 25, 3) := by decide +kernel
theorem dX10_takeFrom_13 : decode cX10_takeFrom 13 = .ok (.putfield 25, 3) := by decide +kernel
theorem dX10_takeFrom_16 : decode cX10_takeFrom 16 = .ok (.aload_n 0, 1) := by decide +kernel
theorem dX10_takeFrom_17 : decode cX10_takeFrom 17 = .ok (.aload_n 1, 1) := by decide +kernel
theorem dX10_takeFrom_18 : decode cX10_takeFrom 18 = .ok (.getfield 9, 3) := by decide +kernel
theorem dX10_takeFrom_21 : decode cX10_takeFrom 21 = .ok (.putfield 9, 3) := by decide +kernel
theorem dX10_takeFrom_24 : decode cX10_takeFrom 24 = .ok (.aload_n 0, 1) := by decide +kernel
theorem dX10_takeFrom_25 : decode cX10_takeFrom 25 = .ok (.aload_n 1, 1) := by decide +kernel
theorem dX10_takeFrom_26 : decode cX10_takeFrom 26 = .ok (.getfield 15, 3) := by decide +kernel
theorem dX10_takeFrom_29 : decode cX10_takeFrom 29 = .ok (.putfield 15, 3) := by decide +kernel
theorem dX10_takeFrom_32 : decode cX10_takeFrom 32 = .ok (.aload_n 0, 1) := by decide +kernel
theorem dX10_takeFrom_33 : decode cX10_takeFrom 33 = .ok (.aload_n 1, 1) := by decide +kernel
theorem dX10_takeFrom_34 : decode cX10_takeFrom 34 = .ok (.getfield 18, 3) := by decide +kernel
theorem dX10_takeFrom_37 : decode cX10_takeFrom 37 = .ok (.putfield 18, 3) := by decide +kernel
theorem dX10_takeFrom_40 : decode cX10_takeFrom 40 = .ok (.aload_n 0, 1) := by decide +kernel
theorem dX10_takeFrom_41 : decode cX10_takeFrom 41 = .ok (.aload_n 1, 1) := by decide +kernel
theorem dX10_takeFrom_42 : decode cX10_takeFrom 42 = .ok (.getfield 28, 3) := by decide +kernel
theorem dX10_takeFrom_45 : decode cX10_takeFrom 45 = .ok (.putfield 28, 3) := by decide +kernel
theorem dX10_takeFrom_48 : decode cX10_takeFrom 48 = .ok (.aload_n 0, 1) := by decide +kernel
theorem dX10_takeFrom_49 : decode cX10_takeFrom 49 = .ok (.aload_n 1, 1) := by decide +kernel
theorem dX10_takeFrom_50 : decode cX10_takeFrom 50 = .ok (.getfield 31, 3) := by decide +kernel
theorem dX10_takeFrom_53 : decode cX10_takeFrom 53 = .ok (.putfield 31, 3) := by decide +kernel
theorem dX10_takeFrom_56 : decode cX10_takeFrom 56 = .ok (.return_, 1) := by decide +kernel
theorem dX10_wants_0 : decode cX10_wants 0 = .ok (.iload_n 1, 1) := by decide +kernel
theorem dX10_wants_1 : decode cX10_wants 1 = .ok (.iconst 2, 1) := by decide +kernel
theorem dX10_wants_2 : decode cX10_wants 2 = .ok (.if_icmp .lt 21, 3) := by decide +kernel
theorem dX10_wants_23 : decode cX10_wants 23 = .ok (.iconst 0, 1) := by decide +kernel
theorem dX10_wants_24 : decode cX10_wants 24 = .ok (.ireturn, 1) := by decide +kernel
theorem dX10_wants_5 : decode cX10_wants 5 = .ok (.aload_n 0, 1) := by decide +kernel
theorem dX10_wants_6 : decode cX10_wants 6 = .ok (.getfield 25, 3) := by decide +kernel
theorem dX10_wants_9 : decode cX10_wants 9 = .ok (.iload_n 1, 1) := by decide +kernel
theorem dX10_wants_10 : decode cX10_wants 10 = .ok (.iconst 2, 1) := by decide +kernel
theorem dX10_wants_11 : decode cX10_wants 11 = .ok (.isub, 1) := by decide +kernel
theorem dX10_wants_12 : decode cX10_wants 12 = .ok (.ishr, 1) := by decide +kernel
theorem dX10_wants_13 : decode cX10_wants 13 = .ok (.iconst 1, 1) := by decide +kernel
theorem dX10_wants_14 : decode cX10_wants 14 = .ok (.iand, 1) := by decide +kernel
theorem dX10_wants_15 : decode cX10_wants 15 = .ok (.iconst 1, 1) := by decide +kernel
theorem dX10_wants_16 : decode cX10_wants 16 = .ok (.if_icmp .ne 7, 3) := by decide +kernel
theorem dX10_wants_19 : decode cX10_wants 19 = .ok (.iconst 1, 1) := by decide +kernel
theorem dX10_wants_20 : decode cX10_wants 20 = .ok (.goto 4, 3) := by decide +kernel
theorem dX10_tellSorts_0 : decode cX10_tellSorts 0 = .ok (.aload_n 0, 1) := by decide +kernel
theorem dX10_tellSorts_1 : decode cX10_tellSorts 1 = .ok (.iconst 0, 1) := by decide +kernel
theorem dX10_tellSorts_2 : decode cX10_tellSorts 2 = .ok (.putfield 25, 3) := by decide +kernel
theorem dX10_tellSorts_5 : decode cX10_tellSorts 5 = .ok (.aload_n 1, 1) := by decide +kernel
theorem dX10_tellSorts_6 : decode cX10_tellSorts 6 = .ok (.ldc 80, 2) := by decide +kernel
theorem dX10_tellSorts_8 : decode cX10_tellSorts 8 = .ok (.invokevirtual 82, 3) := by decide +kernel
theorem dX10_tellSorts_11 : decode cX10_tellSorts 11 = .ok (.istore_n 2, 1) := by decide +kernel
theorem dX10_tellSorts_12 : decode cX10_tellSorts 12 = .ok (.iconst 0, 1) := by decide +kernel
theorem dX10_tellSorts_13 : decode cX10_tellSorts 13 = .ok (.istore_n 3, 1) := by decide +kernel
theorem dX10_tellSorts_14 : decode cX10_tellSorts 14 = .ok (.iload_n 3, 1) := by decide +kernel
theorem dX10_tellSorts_15 : decode cX10_tellSorts 15 = .ok (.aload_n 1, 1) := by decide +kernel
theorem dX10_tellSorts_16 : decode cX10_tellSorts 16 = .ok (.invokevirtual 85, 3) := by decide +kernel
theorem dX10_tellSorts_19 : decode cX10_tellSorts 19 = .ok (.if_icmp .ge 51, 3) := by decide +kernel
theorem dX10_tellSorts_70 : decode cX10_tellSorts 70 = .ok (.iload_n 2, 1) := by decide +kernel
theorem dX10_tellSorts_71 : decode cX10_tellSorts 71 = .ok (.ifCond .eq 10, 3) := by decide +kernel
theorem dX10_tellSorts_81 : decode cX10_tellSorts 81 = .ok (.aload_n 1, 1) := by decide +kernel
theorem dX10_tellSorts_82 : decode cX10_tellSorts 82 = .ok (.iconst 1, 1) := by decide +kernel
theorem dX10_tellSorts_83 : decode cX10_tellSorts 83 = .ok (.invokevirtual 96, 3) := by decide +kernel
theorem dX10_tellSorts_86 : decode cX10_tellSorts 86 = .ok (.return_, 1) := by decide +kernel
theorem dX10_tellSorts_74 : decode cX10_tellSorts 74 = .ok (.aload_n 1, 1) := by decide +kernel
theorem dX10_tellSorts_75 : decode cX10_tellSorts 75 = .ok (.invokevirtual 93, 3) := by decide +kernel
theorem dX10_tellSorts_78 : decode cX10_tellSorts 78 = .ok (.goto 8, 3) := by decide +kernel
theorem dX10_tellSorts_22 : decode cX10_tellSorts 22 = .ok (.iload_n 2, 1) := by decide +kernel
theorem dX10_tellSorts_23 : decode cX10_tellSorts 23 = .ok (.ifCond .eq 47, 3) := by decide +kernel
theorem dX10_tellSorts_26 : decode cX10_tellSorts 26 = .ok (.iconst 1, 1) := by decide +kernel
theorem dX10_tellSorts_27 : decode cX10_tellSorts 27 = .ok (.aload_n 1, 1) := by decide +kernel
theorem dX10_tellSorts_28 : decode cX10_tellSorts 28 = .ok (.iload_n 3, 1) := by decide +kernel
theorem dX10_tellSorts_29 : decode cX10_tellSorts 29 = .ok (.ldc 80, 2) := by decide +kernel
theorem dX10_tellSorts_31 : decode cX10_tellSorts 31 = .ok (.invokevirtual 89, 3) := by decide +kernel
theorem dX10_tellSorts_34 : decode cX10_tellSorts 34 = .ok (.ishl, 1) := by decide +kernel
theorem dX10_tellSorts_35 : decode cX10_tellSorts 35 = .ok (.istore 4, 2) := by decide +kernel
theorem dX10_tellSorts_37 : decode cX10_tellSorts 37 = .ok (.aload_n 0, 1) := by decide +kernel
theorem dX10_tellSorts_38 : decode cX10_tellSorts 38 = .ok (.getfield 25, 3) := by decide +kernel
theorem dX10_tellSorts_41 : decode cX10_tellSorts 41 = .ok (.iload 4, 2) := by decide +kernel
theorem dX10_tellSorts_43 : decode cX10_tellSorts 43 = .ok (.iand, 1) := by decide +kernel
theorem dX10_tellSorts_44 : decode cX10_tellSorts 44 = .ok (.ifCond .ne 7, 3) := by decide +kernel
theorem dX10_tellSorts_51 : decode cX10_tellSorts 51 = .ok (.iconst 0, 1) := by decide +kernel
theorem dX10_tellSorts_52 : decode cX10_tellSorts 52 = .ok (.istore_n 2, 1) := by decide +kernel
theorem dX10_tellSorts_53 : decode cX10_tellSorts 53 = .ok (.aload_n 0, 1) := by decide +kernel
theorem dX10_tellSorts_54 : decode cX10_tellSorts 54 = .ok (.dup, 1) := by decide +kernel
theorem dX10_tellSorts_55 : decode cX10_tellSorts 55 = .ok (.getfield 25, 3) := by decide +kernel
theorem dX10_tellSorts_58 : decode cX10_tellSorts 58 = .ok (.iload 4, 2) := by decide +kernel
theorem dX10_tellSorts_60 : decode cX10_tellSorts 60 = .ok (.ior, 1) := by decide +kernel
theorem dX10_tellSorts_61 : decode cX10_tellSorts 61 = .ok (.putfield 25, 3) := by decide +kernel
theorem dX10_tellSorts_64 : decode cX10_tellSorts 64 = .ok (.iinc 3 1, 3) := by decide +kernel
theorem dX10_tellSorts_67 : decode cX10_tellSorts 67 = .ok (.goto (-53), 3) := by decide +kernel
theorem dX10_tellSorts_47 : decode cX10_tellSorts 47 = .ok (.iconst 1, 1) := by decide +kernel
theorem dX10_tellSorts_48 : decode cX10_tellSorts 48 = .ok (.goto 4, 3) := by decide +kernel
theorem dX10_takeGuard_0 : decode cX10_takeGuard 0 = .ok (.aload_n 0, 1) := by decide +kernel
theorem dX10_takeGuard_1 : decode cX10_takeGuard 1 = .ok (.invokevirtual 100, 3) := by decide +kernel
theorem dX10_takeGuard_4 : decode cX10_takeGuard 4 = .ok (.ifCond .eq 8, 3) := by decide +kernel
theorem dX10_takeGuard_12 : decode cX10_takeGuard 12 = .ok (.aload_n 0, 1) := by decide +kernel
theorem dX10_takeGuard_13 : decode cX10_takeGuard 13 = .ok (.iconst 1, 1) := by decide +kernel
theorem dX10_takeGuard_14 : decode cX10_takeGuard 14 = .ok (.iconst 5, 1) := by decide +kernel
theorem dX10_takeGuard_15 : decode cX10_takeGuard 15 = .ok (.invokevirtual 56, 3) := by decide +kernel
theorem dX10_takeGuard_18 : decode cX10_takeGuard 18 = .ok (.ireturn, 1) := by decide +kernel
theorem dX10_takeGuard_7 : decode cX10_takeGuard 7 = .ok (.aload_n 0, 1) := by decide +kernel
theorem dX10_takeGuard_8 : decode cX10_takeGuard 8 = .ok (.iconst 2, 1) := by decide +kernel
theorem dX10_takeGuard_9 : decode cX10_takeGuard 9 = .ok (.invokevirtual 96, 3) := by decide +kernel
theorem dX10_tell_0 : decode cX10_tell 0 = .ok (.aload_n 0, 1) := by decide +kernel
theorem dX10_tell_1 : decode cX10_tell 1 = .ok (.iconst 1, 1) := by decide +kernel
theorem dX10_tell_2 : decode cX10_tell 2 = .ok (.putfield 21, 3) := by decide +kernel
theorem dX10_tell_5 : decode cX10_tell 5 = .ok (.aload_n 1, 1) := by decide +kernel
theorem dX10_tell_6 : decode cX10_tell 6 = .ok (.invokevirtual 34, 3) := by decide +kernel
theorem dX10_tell_9 : decode cX10_tell 9 = .ok (.aload_n 1, 1) := by decide +kernel
theorem dX10_tell_10 : decode cX10_tell 10 = .ok (.ldc 39, 2) := by decide +kernel
theorem dX10_tell_12 : decode cX10_tell 12 = .ok (.invokevirtual 41, 3) := by decide +kernel
theorem dX10_tell_15 : decode cX10_tell 15 = .ok (.aload_n 1, 1) := by decide +kernel
theorem dX10_tell_16 : decode cX10_tell 16 = .ok (.ldc 45, 2) := by decide +kernel
theorem dX10_tell_18 : decode cX10_tell 18 = .ok (.invokevirtual 41, 3) := by decide +kernel
theorem dX10_tell_21 : decode cX10_tell 21 = .ok (.aload_n 0, 1) := by decide +kernel
theorem dX10_tell_22 : decode cX10_tell 22 = .ok (.aload_n 1, 1) := by decide +kernel
theorem dX10_tell_23 : decode cX10_tell 23 = .ok (.invokevirtual 47, 3) := by decide +kernel
theorem dX10_tell_26 : decode cX10_tell 26 = .ok (.aload_n 0, 1) := by decide +kernel
theorem dX10_tell_27 : decode cX10_tell 27 = .ok (.aload_n 1, 1) := by decide +kernel
theorem dX10_tell_28 : decode cX10_tell 28 = .ok (.ldc 51, 2) := by decide +kernel
theorem dX10_tell_30 : decode cX10_tell 30 = .ok (.invokevirtual 52, 3) := by decide +kernel
theorem dX10_tell_47 : decode cX10_tell 47 = .ok (.putfield 9, 3) := by decide +kernel
theorem dX10_tell_50 : decode cX10_tell 50 = .ok (.aload_n 0, 1) := by decide +kernel
theorem dX10_tell_51 : decode cX10_tell 51 = .ok (.aload_n 1, 1) := by decide +kernel
theorem dX10_tell_52 : decode cX10_tell 52 = .ok (.ldc 60, 2) := by decide +kernel
theorem dX10_tell_54 : decode cX10_tell 54 = .ok (.invokevirtual 52, 3) := by decide +kernel
theorem dX10_tell_70 : decode cX10_tell 70 = .ok (.putfield 15, 3) := by decide +kernel
theorem dX10_tell_73 : decode cX10_tell 73 = .ok (.aload_n 0, 1) := by decide +kernel
theorem dX10_tell_74 : decode cX10_tell 74 = .ok (.aload_n 1, 1) := by decide +kernel
theorem dX10_tell_75 : decode cX10_tell 75 = .ok (.ldc 61, 2) := by decide +kernel
theorem dX10_tell_77 : decode cX10_tell 77 = .ok (.invokevirtual 52, 3) := by decide +kernel
theorem dX10_tell_91 : decode cX10_tell 91 = .ok (.putfield 18, 3) := by decide +kernel
theorem dX10_tell_94 : decode cX10_tell 94 = .ok (.aload_n 0, 1) := by decide +kernel
theorem dX10_tell_95 : decode cX10_tell 95 = .ok (.aload_n 1, 1) := by decide +kernel
theorem dX10_tell_96 : decode cX10_tell 96 = .ok (.ldc 66, 2) := by decide +kernel
theorem dX10_tell_98 : decode cX10_tell 98 = .ok (.invokevirtual 52, 3) := by decide +kernel
theorem dX10_tell_101 : decode cX10_tell 101 = .ok (.putfield 28, 3) := by decide +kernel
theorem dX10_tell_104 : decode cX10_tell 104 = .ok (.aload_n 0, 1) := by decide +kernel
theorem dX10_tell_105 : decode cX10_tell 105 = .ok (.aload_n 1, 1) := by decide +kernel
theorem dX10_tell_106 : decode cX10_tell 106 = .ok (.ldc 68, 2) := by decide +kernel
theorem dX10_tell_108 : decode cX10_tell 108 = .ok (.invokevirtual 52, 3) := by decide +kernel
theorem dX10_tell_111 : decode cX10_tell 111 = .ok (.putfield 31, 3) := by decide +kernel
theorem dX10_tell_114 : decode cX10_tell 114 = .ok (.aload_n 1, 1) := by decide +kernel
theorem dX10_tell_115 : decode cX10_tell 115 = .ok (.invokevirtual 70, 3) := by decide +kernel
theorem dX10_tell_118 : decode cX10_tell 118 = .ok (.aload_n 1, 1) := by decide +kernel
theorem dX10_tell_119 : decode cX10_tell 119 = .ok (.invokevirtual 73, 3) := by decide +kernel
theorem dX10_tell_122 : decode cX10_tell 122 = .ok (.aload_n 1, 1) := by decide +kernel
theorem dX10_tell_123 : decode cX10_tell 123 = .ok (.invokevirtual 76, 3) := by decide +kernel
theorem dX10_tell_126 : decode cX10_tell 126 = .ok (.ireturn, 1) := by decide +kernel
theorem dX10_tell_80 : decode cX10_tell 80 = .ok (.ifCond .eq 10, 3) := by decide +kernel
theorem dX10_tell_90 : decode cX10_tell 90 = .ok (.iconst 1, 1) := by decide +kernel
theorem dX10_tell_83 : decode cX10_tell 83 = .ok (.aload_n 1, 1) := by decide +kernel
theorem dX10_tell_84 : decode cX10_tell 84 = .ok (.invokestatic 62, 3) := by decide +kernel
theorem dX10_tell_87 : decode cX10_tell 87 = .ok (.goto 4, 3) := by decide +kernel
theorem dX10_tell_57 : decode cX10_tell 57 = .ok (.ifCond .eq 12, 3) := by decide +kernel
theorem dX10_tell_69 : decode cX10_tell 69 = .ok (.iconst 1, 1) := by decide +kernel
theorem dX10_tell_60 : decode cX10_tell 60 = .ok (.aload_n 1, 1) := by decide +kernel
theorem dX10_tell_61 : decode cX10_tell 61 = .ok (.iconst 1, 1) := by decide +kernel
theorem dX10_tell_62 : decode cX10_tell 62 = .ok (.iconst 5, 1) := by decide +kernel
theorem dX10_tell_63 : decode cX10_tell 63 = .ok (.invokevirtual 56, 3) := by decide +kernel
theorem dX10_tell_66 : decode cX10_tell 66 = .ok (.goto 4, 3) := by decide +kernel
theorem dX10_tell_33 : decode cX10_tell 33 = .ok (.ifCond .eq 13, 3) := by decide +kernel
theorem dX10_tell_46 : decode cX10_tell 46 = .ok (.iconst 1, 1) := by decide +kernel
theorem dX10_tell_36 : decode cX10_tell 36 = .ok (.aload_n 1, 1) := by decide +kernel
theorem dX10_tell_37 : decode cX10_tell 37 = .ok (.iconst 1, 1) := by decide +kernel
theorem dX10_tell_38 : decode cX10_tell 38 = .ok (.bipush 9, 2) := by decide +kernel
theorem dX10_tell_40 : decode cX10_tell 40 = .ok (.invokevirtual 56, 3) := by decide +kernel
theorem dX10_tell_43 : decode cX10_tell 43 = .ok (.goto 4, 3) := by decide +kernel
theorem dX9_takeFrom_0 : decode cX9_takeFrom 0 = .ok (.aload_n 1, 1) := by decide +kernel
theorem dX9_takeFrom_1 : decode cX9_takeFrom 1 = .ok (.getfield 13, 3) := by decide +kernel
theorem dX9_takeFrom_4 : decode cX9_takeFrom 4 = .ok (.iconst 0, 1) := by decide +kernel
theorem dX9_takeFrom_5 : decode cX9_takeFrom 5 = .ok (.aload_n 0, 1) := by decide +kernel
theorem dX9_takeFrom_6 : decode cX9_takeFrom 6 = .ok (.getfield 13, 3) := by decide +kernel
theorem dX9_takeFrom_9 : decode cX9_takeFrom 9 = .ok (.iconst 0, 1) := by decide +kernel
theorem dX9_takeFrom_10 : decode cX9_takeFrom 10 = .ok (.sipush 300, 3) := by decide +kernel
theorem dX9_takeFrom_13 : decode cX9_takeFrom 13 = .ok (.invokestatic 17, 3) := by decide +kernel
theorem dX9_takeFrom_16 : decode cX9_takeFrom 16 = .ok (.aload_n 0, 1) := by decide +kernel
theorem dX9_takeFrom_17 : decode cX9_takeFrom 17 = .ok (.aload_n 1, 1) := by decide +kernel
theorem dX9_takeFrom_18 : decode cX9_takeFrom 18 = .ok (.getfield 23, 3) := by decide +kernel
theorem dX9_takeFrom_21 : decode cX9_takeFrom 21 = .ok (.putfield 23, 3) := by decide +kernel
theorem dX9_takeFrom_24 : decode cX9_takeFrom 24 = .ok (.aload_n 0, 1) := by decide +kernel
theorem dX9_takeFrom_25 : decode cX9_takeFrom 25 = .ok (.aload_n 1, 1) := by decide +kernel
theorem dX9_takeFrom_26 : decode cX9_takeFrom 26 = .ok (.getfield 27, 3) := by decide +kernel
theorem dX9_takeFrom_29 : decode cX9_takeFrom 29 = .ok (.putfield 27, 3) := by decide +kernel
theorem dX9_takeFrom_32 : decode cX9_takeFrom 32 = .ok (.return_, 1) := by decide +kernel
theorem dX9_nameOfCounter_0 : decode cX9_nameOfCounter 0 = .ok (.iload_n 0, 1) := by decide +kernel
theorem dX9_nameOfCounter_1 : decode cX9_nameOfCounter 1 = .ok (.tableswitch 64 0 6 #[43, 46, 49, 52, 55, 58, 61], 43) := by decide +kernel
theorem dX9_nameOfCounter_44 : decode cX9_nameOfCounter 44 = .ok (.ldc 95, 2) := by decide +kernel
theorem dX9_nameOfCounter_46 : decode cX9_nameOfCounter 46 = .ok (.areturn, 1) := by decide +kernel
theorem dX9_nameOfCounter_47 : decode cX9_nameOfCounter 47 = .ok (.ldc 97, 2) := by decide +kernel
theorem dX9_nameOfCounter_49 : decode cX9_nameOfCounter 49 = .ok (.areturn, 1) := by decide +kernel
theorem dX9_nameOfCounter_50 : decode cX9_nameOfCounter 50 = .ok (.ldc 99, 2) := by decide +kernel
theorem dX9_nameOfCounter_52 : decode cX9_nameOfCounter 52 = .ok (.areturn, 1) := by decide +kernel
theorem dX9_nameOfCounter_53 : decode cX9_nameOfCounter 53 = .ok (.ldc 101, 2) := by decide +kernel
theorem dX9_nameOfCounter_55 : decode cX9_nameOfCounter 55 = .ok (.areturn, 1) := by decide +kernel
theorem dX9_nameOfCounter_56 : decode cX9_nameOfCounter 56 = .ok (.ldc 103, 2) := by decide +kernel
theorem dX9_nameOfCounter_58 : decode cX9_nameOfCounter 58 = .ok (.areturn, 1) := by decide +kernel
theorem dX9_nameOfCounter_59 : decode cX9_nameOfCounter 59 = .ok (.ldc 105, 2) := by decide +kernel
theorem dX9_nameOfCounter_61 : decode cX9_nameOfCounter 61 = .ok (.areturn, 1) := by decide +kernel
theorem dX9_nameOfCounter_62 : decode cX9_nameOfCounter 62 = .ok (.ldc 107, 2) := by decide +kernel
theorem dX9_nameOfCounter_64 : decode cX9_nameOfCounter 64 = .ok (.areturn, 1) := by decide +kernel
theorem dX9_nameOfCounter_65 : decode cX9_nameOfCounter 65 = .ok (.ldc 109, 2) := by decide +kernel
theorem dX9_nameOfCounter_67 : decode cX9_nameOfCounter 67 = .ok (.areturn, 1) := by decide +kernel
theorem dX9_addCode_0 : decode cX9_addCode 0 = .ok (.aload_n 0, 1) := by decide +kernel
theorem dX9_addCode_1 : decode cX9_addCode 1 = .ok (.getfield 23, 3) := by decide +kernel
theorem dX9_addCode_4 : decode cX9_addCode 4 = .ok (.sipush 300, 3) := by decide +kernel
theorem dX9_addCode_7 : decode cX9_addCode 7 = .ok (.if_icmp .ge 23, 3) := by decide +kernel
theorem dX9_addCode_30 : decode cX9_addCode 30 = .ok (.return_, 1) := by decide +kernel
theorem dX9_addCode_10 : decode cX9_addCode 10 = .ok (.aload_n 0, 1) := by decide +kernel
theorem dX9_addCode_11 : decode cX9_addCode 11 = .ok (.getfield 13, 3) := by decide +kernel
theorem dX9_addCode_14 : decode cX9_addCode 14 = .ok (.aload_n 0, 1) := by decide +kernel
theorem dX9_addCode_15 : decode cX9_addCode 15 = .ok (.getfield 23, 3) := by decide +kernel
theorem dX9_addCode_18 : decode cX9_addCode 18 = .ok (.iload_n 1, 1) := by decide +kernel
theorem dX9_addCode_19 : decode cX9_addCode 19 = .ok (.iastore, 1) := by decide +kernel
theorem dX9_addCode_20 : decode cX9_addCode 20 = .ok (.aload_n 0, 1) := by decide +kernel
theorem dX9_addCode_21 : decode cX9_addCode 21 = .ok (.dup, 1) := by decide +kernel
theorem dX9_addCode_22 : decode cX9_addCode 22 = .ok (.getfield 23, 3) := by decide +kernel
theorem dX9_addCode_25 : decode cX9_addCode 25 = .ok (.iconst 1, 1) := by decide +kernel
theorem dX9_addCode_26 : decode cX9_addCode 26 = .ok (.iadd, 1) := by decide +kernel
theorem dX9_addCode_27 : decode cX9_addCode 27 = .ok (.putfield 23, 3) := by decide +kernel
theorem dX9_tellPart_0 : decode cX9_tellPart 0 = .ok (.aload_n 1, 1) := by decide +kernel
theorem dX9_tellPart_1 : decode cX9_tellPart 1 = .ok (.invokevirtual 75, 3) := by decide +kernel
theorem dX9_tellPart_4 : decode cX9_tellPart 4 = .ok (.ifCond .eq 16, 3) := by decide +kernel
theorem dX9_tellPart_20 : decode cX9_tellPart 20 = .ok (.iconst 0, 1) := by decide +kernel
theorem dX9_tellPart_21 : decode cX9_tellPart 21 = .ok (.istore_n 2, 1) := by decide +kernel
theorem dX9_tellPart_22 : decode cX9_tellPart 22 = .ok (.iload_n 2, 1) := by decide +kernel
theorem dX9_tellPart_23 : decode cX9_tellPart 23 = .ok (.bipush 8, 2) := by decide +kernel
theorem dX9_tellPart_25 : decode cX9_tellPart 25 = .ok (.if_icmp .ge 30, 3) := by decide +kernel
theorem dX9_tellPart_55 : decode cX9_tellPart 55 = .ok (.aload_n 1, 1) := by decide +kernel
theorem dX9_tellPart_56 : decode cX9_tellPart 56 = .ok (.iconst 1, 1) := by decide +kernel
theorem dX9_tellPart_57 : decode cX9_tellPart 57 = .ok (.invokevirtual 45, 3) := by decide +kernel
theorem dX9_tellPart_60 : decode cX9_tellPart 60 = .ok (.return_, 1) := by decide +kernel
theorem dX9_tellPart_28 : decode cX9_tellPart 28 = .ok (.aload_n 1, 1) := by decide +kernel
theorem dX9_tellPart_29 : decode cX9_tellPart 29 = .ok (.iload_n 2, 1) := by decide +kernel
theorem dX9_tellPart_30 : decode cX9_tellPart 30 = .ok (.invokestatic 82, 3) := by decide +kernel
theorem dX9_tellPart_33 : decode cX9_tellPart 33 = .ok (.invokevirtual 86, 3) := by decide +kernel
theorem dX9_tellPart_36 : decode cX9_tellPart 36 = .ok (.ifCond .eq 13, 3) := by decide +kernel
theorem dX9_tellPart_49 : decode cX9_tellPart 49 = .ok (.iinc 2 1, 3) := by decide +kernel
theorem dX9_tellPart_52 : decode cX9_tellPart 52 = .ok (.goto (-30), 3) := by decide +kernel
theorem dX9_tellPart_39 : decode cX9_tellPart 39 = .ok (.aload_n 0, 1) := by decide +kernel
theorem dX9_tellPart_40 : decode cX9_tellPart 40 = .ok (.sipush 1000, 3) := by decide +kernel
theorem dX9_tellPart_43 : decode cX9_tellPart 43 = .ok (.iload_n 2, 1) := by decide +kernel
theorem dX9_tellPart_44 : decode cX9_tellPart 44 = .ok (.iadd, 1) := by decide +kernel
theorem dX9_tellPart_45 : decode cX9_tellPart 45 = .ok (.invokevirtual 72, 3) := by decide +kernel
theorem dX9_tellPart_48 : decode cX9_tellPart 48 = .ok (.return_, 1) := by decide +kernel
theorem dX9_tellPart_7 : decode cX9_tellPart 7 = .ok (.aload_n 0, 1) := by decide +kernel
theorem dX9_tellPart_8 : decode cX9_tellPart 8 = .ok (.aload_n 1, 1) := by decide +kernel
theorem dX9_tellPart_9 : decode cX9_tellPart 9 = .ok (.iconst 0, 1) := by decide +kernel
theorem dX9_tellPart_10 : decode cX9_tellPart 10 = .ok (.sipush 999, 3) := by decide +kernel
theorem dX9_tellPart_13 : decode cX9_tellPart 13 = .ok (.invokevirtual 78, 3) := by decide +kernel
theorem dX9_tellPart_16 : decode cX9_tellPart 16 = .ok (.invokevirtual 72, 3) := by decide +kernel
theorem dX9_tellPart_19 : decode cX9_tellPart 19 = .ok (.return_, 1) := by decide +kernel
theorem dX9_nameOfLink_0 : decode cX9_nameOfLink 0 = .ok (.iload_n 0, 1) := by decide +kernel
theorem dX9_nameOfLink_1 : decode cX9_nameOfLink 1 = .ok (.tableswitch 57 2000 2005 #[39, 42, 45, 48, 51, 54], 39) := by decide +kernel
theorem dX9_nameOfLink_40 : decode cX9_nameOfLink 40 = .ok (.ldc 111, 2) := by decide +kernel
theorem dX9_nameOfLink_42 : decode cX9_nameOfLink 42 = .ok (.areturn, 1) := by decide +kernel
theorem dX9_nameOfLink_43 : decode cX9_nameOfLink 43 = .ok (.ldc 113, 2) := by decide +kernel
theorem dX9_nameOfLink_45 : decode cX9_nameOfLink 45 = .ok (.areturn, 1) := by decide +kernel
theorem dX9_nameOfLink_46 : decode cX9_nameOfLink 46 = .ok (.ldc 115, 2) := by decide +kernel
theorem dX9_nameOfLink_48 : decode cX9_nameOfLink 48 = .ok (.areturn, 1) := by decide +kernel
theorem dX9_nameOfLink_49 : decode cX9_nameOfLink 49 = .ok (.ldc 117, 2) := by decide +kernel
theorem dX9_nameOfLink_51 : decode cX9_nameOfLink 51 = .ok (.areturn, 1) := by decide +kernel
theorem dX9_nameOfLink_52 : decode cX9_nameOfLink 52 = .ok (.ldc 119, 2) := by decide +kernel
theorem dX9_nameOfLink_54 : decode cX9_nameOfLink 54 = .ok (.areturn, 1) := by decide +kernel
theorem dX9_nameOfLink_55 : decode cX9_nameOfLink 55 = .ok (.ldc 121, 2) := by decide +kernel
theorem dX9_nameOfLink_57 : decode cX9_nameOfLink 57 = .ok (.areturn, 1) := by decide +kernel
theorem dX9_nameOfLink_58 : decode cX9_nameOfLink 58 = .ok (.ldc 123, 2) := by decide +kernel
theorem dX9_nameOfLink_60 : decode cX9_nameOfLink 60 = .ok (.areturn, 1) := by decide +kernel
theorem dX9_linkAt_0 : decode cX9_linkAt 0 = .ok (.iload_n 1, 1) := by decide +kernel
theorem dX9_linkAt_1 : decode cX9_linkAt 1 = .ok (.ifCond .eq 14, 3) := by decide +kernel
theorem dX9_linkAt_15 : decode cX9_linkAt 15 = .ok (.sipush 2000, 3) := by decide +kernel
theorem dX9_linkAt_18 : decode cX9_linkAt 18 = .ok (.istore_n 2, 1) := by decide +kernel
theorem dX9_linkAt_19 : decode cX9_linkAt 19 = .ok (.iload_n 2, 1) := by decide +kernel
theorem dX9_linkAt_20 : decode cX9_linkAt 20 = .ok (.sipush 2006, 3) := by decide +kernel
theorem dX9_linkAt_23 : decode cX9_linkAt 23 = .ok (.if_icmp .gt 55, 3) := by decide +kernel
theorem dX9_linkAt_78 : decode cX9_linkAt 78 = .ok (.iconst (-1), 1) := by decide +kernel
theorem dX9_linkAt_79 : decode cX9_linkAt 79 = .ok (.ireturn, 1) := by decide +kernel
theorem dX9_linkAt_26 : decode cX9_linkAt 26 = .ok (.iload_n 2, 1) := by decide +kernel
theorem dX9_linkAt_27 : decode cX9_linkAt 27 = .ok (.sipush 2002, 3) := by decide +kernel
theorem dX9_linkAt_54 : decode cX9_linkAt 54 = .ok (.istore_n 3, 1) := by decide +kernel
theorem dX9_linkAt_55 : decode cX9_linkAt 55 = .ok (.iload_n 3, 1) := by decide +kernel
theorem dX9_linkAt_56 : decode cX9_linkAt 56 = .ok (.ifCond .eq 16, 3) := by decide +kernel
theorem dX9_linkAt_72 : decode cX9_linkAt 72 = .ok (.iinc 2 1, 3) := by decide +kernel
theorem dX9_linkAt_75 : decode cX9_linkAt 75 = .ok (.goto (-56), 3) := by decide +kernel
theorem dX9_linkAt_59 : decode cX9_linkAt 59 = .ok (.aload_n 0, 1) := by decide +kernel
theorem dX9_linkAt_60 : decode cX9_linkAt 60 = .ok (.iload_n 2, 1) := by decide +kernel
theorem dX9_linkAt_61 : decode cX9_linkAt 61 = .ok (.invokestatic 92, 3) := by decide +kernel
theorem dX9_linkAt_64 : decode cX9_linkAt 64 = .ok (.invokevirtual 41, 3) := by decide +kernel
theorem dX9_linkAt_67 : decode cX9_linkAt 67 = .ok (.ifCond .eq 5, 3) := by decide +kernel
theorem dX9_linkAt_70 : decode cX9_linkAt 70 = .ok (.iload_n 2, 1) := by decide +kernel
theorem dX9_linkAt_71 : decode cX9_linkAt 71 = .ok (.ireturn, 1) := by decide +kernel
theorem dX9_linkAt_30 : decode cX9_linkAt 30 = .ok (.if_icmp .le 19, 3) := by decide +kernel
theorem dX9_linkAt_49 : decode cX9_linkAt 49 = .ok (.iconst 1, 1) := by decide +kernel
theorem dX9_linkAt_50 : decode cX9_linkAt 50 = .ok (.goto 4, 3) := by decide +kernel
theorem dX9_linkAt_33 : decode cX9_linkAt 33 = .ok (.iload_n 2, 1) := by decide +kernel
theorem dX9_linkAt_34 : decode cX9_linkAt 34 = .ok (.sipush 2006, 3) := by decide +kernel
theorem dX9_linkAt_37 : decode cX9_linkAt 37 = .ok (.if_icmp .ne 7, 3) := by decide +kernel
theorem dX9_linkAt_44 : decode cX9_linkAt 44 = .ok (.iconst 0, 1) := by decide +kernel
theorem dX9_linkAt_45 : decode cX9_linkAt 45 = .ok (.iload_n 1, 1) := by decide +kernel
theorem dX9_linkAt_46 : decode cX9_linkAt 46 = .ok (.if_icmp .ne 7, 3) := by decide +kernel
theorem dX9_linkAt_40 : decode cX9_linkAt 40 = .ok (.iconst 1, 1) := by decide +kernel
theorem dX9_linkAt_41 : decode cX9_linkAt 41 = .ok (.goto 4, 3) := by decide +kernel
theorem dX9_linkAt_53 : decode cX9_linkAt 53 = .ok (.iconst 0, 1) := by decide +kernel
theorem dX9_linkAt_4 : decode cX9_linkAt 4 = .ok (.aload_n 0, 1) := by decide +kernel
theorem dX9_linkAt_5 : decode cX9_linkAt 5 = .ok (.invokevirtual 89, 3) := by decide +kernel
theorem dX9_linkAt_8 : decode cX9_linkAt 8 = .ok (.ifCond .eq 7, 3) := by decide +kernel
theorem dX9_linkAt_11 : decode cX9_linkAt 11 = .ok (.sipush 2007, 3) := by decide +kernel
theorem dX9_linkAt_14 : decode cX9_linkAt 14 = .ok (.ireturn, 1) := by decide +kernel
theorem dX9_tellLine_0 : decode cX9_tellLine 0 = .ok (.aload_n 1, 1) := by decide +kernel
theorem dX9_tellLine_1 : decode cX9_tellLine 1 = .ok (.ldc 39, 2) := by decide +kernel
theorem dX9_tellLine_3 : decode cX9_tellLine 3 = .ok (.invokevirtual 56, 3) := by decide +kernel
theorem dX9_tellLine_6 : decode cX9_tellLine 6 = .ok (.aload_n 1, 1) := by decide +kernel
