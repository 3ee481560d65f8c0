theorem dX12_keeps_0 : decode cX12_keeps 0 = .ok (.iload_n 1, 1) := by decide +kernel
theorem dX12_keeps_1 : decode cX12_keeps 1 = .ok (.istore_n 3, 1) := by decide +kernel
theorem dX12_keeps_2 : decode cX12_keeps 2 = .ok (.iload_n 3, 1) := by decide +kernel
theorem dX12_keeps_3 : decode cX12_keeps 3 = .ok (.iload_n 2, 1) := by decide +kernel
theorem dX12_keeps_4 : decode cX12_keeps 4 = .ok (.if_icmp .ge 21, 3) := by decide +kernel
theorem dX12_keeps_25 : decode cX12_keeps 25 = .ok (.return_, 1) := by decide +kernel
theorem dX12_keeps_7 : decode cX12_keeps 7 = .ok (.aload_n 0, 1) := by decide +kernel
theorem dX12_keeps_8 : decode cX12_keeps 8 = .ok (.getfield 13, 3) := by decide +kernel
theorem dX12_keeps_11 : decode cX12_keeps 11 = .ok (.iload_n 3, 1) := by decide +kernel
theorem dX12_keeps_12 : decode cX12_keeps 12 = .ok (.aload_n 0, 1) := by decide +kernel
theorem dX12_keeps_13 : decode cX12_keeps 13 = .ok (.getfield 34, 3) := by decide +kernel
theorem dX12_keeps_16 : decode cX12_keeps 16 = .ok (.iload_n 3, 1) := by decide +kernel
theorem dX12_keeps_17 : decode cX12_keeps 17 = .ok (.iaload, 1) := by decide +kernel
theorem dX12_keeps_18 : decode cX12_keeps 18 = .ok (.iastore, 1) := by decide +kernel
theorem dX12_keeps_19 : decode cX12_keeps 19 = .ok (.iinc 3 1, 3) := by decide +kernel
theorem dX12_keeps_22 : decode cX12_keeps 22 = .ok (.goto (-20), 3) := by decide +kernel
theorem dX12_clears_0 : decode cX12_clears 0 = .ok (.iload_n 1, 1) := by decide +kernel
theorem dX12_clears_1 : decode cX12_clears 1 = .ok (.istore_n 3, 1) := by decide +kernel
theorem dX12_clears_2 : decode cX12_clears 2 = .ok (.iload_n 3, 1) := by decide +kernel
theorem dX12_clears_3 : decode cX12_clears 3 = .ok (.iload_n 2, 1) := by decide +kernel
theorem dX12_clears_4 : decode cX12_clears 4 = .ok (.if_icmp .ge 16, 3) := by decide +kernel
theorem dX12_clears_20 : decode cX12_clears 20 = .ok (.return_, 1) := by decide +kernel
theorem dX12_clears_7 : decode cX12_clears 7 = .ok (.aload_n 0, 1) := by decide +kernel
theorem dX12_clears_8 : decode cX12_clears 8 = .ok (.getfield 34, 3) := by decide +kernel
theorem dX12_clears_11 : decode cX12_clears 11 = .ok (.iload_n 3, 1) := by decide +kernel
theorem dX12_clears_12 : decode cX12_clears 12 = .ok (.iconst 0, 1) := by decide +kernel
theorem dX12_clears_13 : decode cX12_clears 13 = .ok (.iastore, 1) := by decide +kernel
theorem dX12_clears_14 : decode cX12_clears 14 = .ok (.iinc 3 1, 3) := by decide +kernel
theorem dX12_clears_17 : decode cX12_clears 17 = .ok (.goto (-15), 3) := by decide +kernel
theorem dX12_in_0 : decode cX12_in 0 = .ok (.lload_n 0, 1) := by decide +kernel
theorem dX12_in_1 : decode cX12_in 1 = .ok (.lload_n 2, 1) := by decide +kernel
theorem dX12_in_2 : decode cX12_in 2 = .ok (.lcmp, 1) := by decide +kernel
theorem dX12_in_3 : decode cX12_in 3 = .ok (.ifCond .lt 14, 3) := by decide +kernel
theorem dX12_in_17 : decode cX12_in 17 = .ok (.iconst 0, 1) := by decide +kernel
theorem dX12_in_18 : decode cX12_in 18 = .ok (.ireturn, 1) := by decide +kernel
theorem dX12_in_6 : decode cX12_in 6 = .ok (.lload_n 0, 1) := by decide +kernel
theorem dX12_in_7 : decode cX12_in 7 = .ok (.lload 4, 2) := by decide +kernel
theorem dX12_in_9 : decode cX12_in 9 = .ok (.lcmp, 1) := by decide +kernel
theorem dX12_in_10 : decode cX12_in 10 = .ok (.ifCond .gt 7, 3) := by decide +kernel
theorem dX12_in_13 : decode cX12_in 13 = .ok (.iconst 1, 1) := by decide +kernel
theorem dX12_in_14 : decode cX12_in 14 = .ok (.goto 4, 3) := by decide +kernel
theorem dX12_keep_0 : decode cX12_keep 0 = .ok (.iload_n 1, 1) := by decide +kernel
theorem dX12_keep_1 : decode cX12_keep 1 = .ok (.i2l, 1) := by decide +kernel
theorem dX12_keep_2 : decode cX12_keep 2 = .ok (.lconst 0, 1) := by decide +kernel
theorem dX12_keep_3 : decode cX12_keep 3 = .ok (.ldc2_w 77, 3) := by decide +kernel
theorem dX12_keep_6 : decode cX12_keep 6 = .ok (.invokestatic 79, 3) := by decide +kernel
theorem dX12_keep_9 : decode cX12_keep 9 = .ok (.ifCond .ne 6, 3) := by decide +kernel
theorem dX12_keep_15 : decode cX12_keep 15 = .ok (.iconst 0, 1) := by decide +kernel
theorem dX12_keep_16 : decode cX12_keep 16 = .ok (.istore_n 2, 1) := by decide +kernel
theorem dX12_keep_17 : decode cX12_keep 17 = .ok (.iload_n 2, 1) := by decide +kernel
theorem dX12_keep_18 : decode cX12_keep 18 = .ok (.sipush 2076, 3) := by decide +kernel
theorem dX12_keep_21 : decode cX12_keep 21 = .ok (.if_icmp .ge 27, 3) := by decide +kernel
theorem dX12_keep_48 : decode cX12_keep 48 = .ok (.aload_n 0, 1) := by decide +kernel
theorem dX12_keep_49 : decode cX12_keep 49 = .ok (.getfield 20, 3) := by decide +kernel
theorem dX12_keep_52 : decode cX12_keep 52 = .ok (.iload_n 1, 1) := by decide +kernel
theorem dX12_keep_53 : decode cX12_keep 53 = .ok (.iconst 1, 1) := by decide +kernel
theorem dX12_keep_54 : decode cX12_keep 54 = .ok (.bastore, 1) := by decide +kernel
theorem dX12_keep_55 : decode cX12_keep 55 = .ok (.iconst 0, 1) := by decide +kernel
theorem dX12_keep_56 : decode cX12_keep 56 = .ok (.ireturn, 1) := by decide +kernel
theorem dX12_keep_24 : decode cX12_keep 24 = .ok (.aload_n 0, 1) := by decide +kernel
theorem dX12_keep_25 : decode cX12_keep 25 = .ok (.getfield 17, 3) := by decide +kernel
theorem dX12_keep_28 : decode cX12_keep 28 = .ok (.sipush 2076, 3) := by decide +kernel
theorem dX12_keep_31 : decode cX12_keep 31 = .ok (.iload_n 1, 1) := by decide +kernel
theorem dX12_keep_32 : decode cX12_keep 32 = .ok (.imul, 1) := by decide +kernel
theorem dX12_keep_33 : decode cX12_keep 33 = .ok (.iload_n 2, 1) := by decide +kernel
theorem dX12_keep_34 : decode cX12_keep 34 = .ok (.iadd, 1) := by decide +kernel
theorem dX12_keep_35 : decode cX12_keep 35 = .ok (.aload_n 0, 1) := by decide +kernel
theorem dX12_keep_36 : decode cX12_keep 36 = .ok (.getfield 13, 3) := by decide +kernel
theorem dX12_keep_39 : decode cX12_keep 39 = .ok (.iload_n 2, 1) := by decide +kernel
theorem dX12_keep_40 : decode cX12_keep 40 = .ok (.iaload, 1) := by decide +kernel
theorem dX12_keep_41 : decode cX12_keep 41 = .ok (.iastore, 1) := by decide +kernel
theorem dX12_keep_42 : decode cX12_keep 42 = .ok (.iinc 2 1, 3) := by decide +kernel
theorem dX12_keep_45 : decode cX12_keep 45 = .ok (.goto (-28), 3) := by decide +kernel
theorem dX12_keep_12 : decode cX12_keep 12 = .ok (.bipush (-2), 2) := by decide +kernel
theorem dX12_keep_14 : decode cX12_keep 14 = .ok (.ireturn, 1) := by decide +kernel
theorem dX12_back_0 : decode cX12_back 0 = .ok (.iload_n 1, 1) := by decide +kernel
theorem dX12_back_1 : decode cX12_back 1 = .ok (.i2l, 1) := by decide +kernel
theorem dX12_back_2 : decode cX12_back 2 = .ok (.lconst 0, 1) := by decide +kernel
theorem dX12_back_3 : decode cX12_back 3 = .ok (.ldc2_w 77, 3) := by decide +kernel
theorem dX12_back_6 : decode cX12_back 6 = .ok (.invokestatic 79, 3) := by decide +kernel
theorem dX12_back_9 : decode cX12_back 9 = .ok (.ifCond .ne 6, 3) := by decide +kernel
theorem dX12_back_15 : decode cX12_back 15 = .ok (.aload_n 0, 1) := by decide +kernel
theorem dX12_back_16 : decode cX12_back 16 = .ok (.getfield 20, 3) := by decide +kernel
theorem dX12_back_19 : decode cX12_back 19 = .ok (.iload_n 1, 1) := by decide +kernel
theorem dX12_back_20 : decode cX12_back 20 = .ok (.baload, 1) := by decide +kernel
theorem dX12_back_21 : decode cX12_back 21 = .ok (.ifCond .ne 6, 3) := by decide +kernel
theorem dX12_back_27 : decode cX12_back 27 = .ok (.iconst 0, 1) := by decide +kernel
theorem dX12_back_28 : decode cX12_back 28 = .ok (.istore_n 2, 1) := by decide +kernel
theorem dX12_back_29 : decode cX12_back 29 = .ok (.iload_n 2, 1) := by decide +kernel
theorem dX12_back_30 : decode cX12_back 30 = .ok (.sipush 2076, 3) := by decide +kernel
theorem dX12_back_33 : decode cX12_back 33 = .ok (.if_icmp .ge 27, 3) := by decide +kernel
theorem dX12_back_60 : decode cX12_back 60 = .ok (.iconst 0, 1) := by decide +kernel
theorem dX12_back_61 : decode cX12_back 61 = .ok (.ireturn, 1) := by decide +kernel
theorem dX12_back_36 : decode cX12_back 36 = .ok (.aload_n 0, 1) := by decide +kernel
theorem dX12_back_37 : decode cX12_back 37 = .ok (.getfield 13, 3) := by decide +kernel
theorem dX12_back_40 : decode cX12_back 40 = .ok (.iload_n 2, 1) := by decide +kernel
theorem dX12_back_41 : decode cX12_back 41 = .ok (.aload_n 0, 1) := by decide +kernel
theorem dX12_back_42 : decode cX12_back 42 = .ok (.getfield 17, 3) := by decide +kernel
theorem dX12_back_45 : decode cX12_back 45 = .ok (.sipush 2076, 3) := by decide +kernel
theorem dX12_back_48 : decode cX12_back 48 = .ok (.iload_n 1, 1) := by decide +kernel
theorem dX12_back_49 : decode cX12_back 49 = .ok (.imul, 1) := by decide +kernel
theorem dX12_back_50 : decode cX12_back 50 = .ok (.iload_n 2, 1) := by decide +kernel
theorem dX12_back_51 : decode cX12_back 51 = .ok (.iadd, 1) := by decide +kernel
theorem dX12_back_52 : decode cX12_back 52 = .ok (.iaload, 1) := by decide +kernel
theorem dX12_back_53 : decode cX12_back 53 = .ok (.iastore, 1) := by decide +kernel
theorem dX12_back_54 : decode cX12_back 54 = .ok (.iinc 2 1, 3) := by decide +kernel
theorem dX12_back_57 : decode cX12_back 57 = .ok (.goto (-28), 3) := by decide +kernel
theorem dX12_back_24 : decode cX12_back 24 = .ok (.bipush (-6), 2) := by decide +kernel
theorem dX12_back_26 : decode cX12_back 26 = .ok (.ireturn, 1) := by decide +kernel
theorem dX12_back_12 : decode cX12_back 12 = .ok (.bipush (-2), 2) := by decide +kernel
theorem dX12_back_14 : decode cX12_back 14 = .ok (.ireturn, 1) := by decide +kernel
theorem dX12_begin_0 : decode cX12_begin 0 = .ok (.aload_n 0, 1) := by decide +kernel
theorem dX12_begin_1 : decode cX12_begin 1 = .ok (.aload_n 0, 1) := by decide +kernel
theorem dX12_begin_2 : decode cX12_begin 2 = .ok (.getfield 102, 3) := by decide +kernel
theorem dX12_begin_5 : decode cX12_begin 5 = .ok (.putfield 105, 3) := by decide +kernel
theorem dX12_begin_8 : decode cX12_begin 8 = .ok (.aload_n 0, 1) := by decide +kernel
theorem dX12_begin_9 : decode cX12_begin 9 = .ok (.iconst 0, 1) := by decide +kernel
theorem dX12_begin_10 : decode cX12_begin 10 = .ok (.putfield 102, 3) := by decide +kernel
theorem dX12_begin_13 : decode cX12_begin 13 = .ok (.aload_n 0, 1) := by decide +kernel
theorem dX12_begin_14 : decode cX12_begin 14 = .ok (.iconst 0, 1) := by decide +kernel
theorem dX12_begin_15 : decode cX12_begin 15 = .ok (.putfield 108, 3) := by decide +kernel
theorem dX12_begin_18 : decode cX12_begin 18 = .ok (.aload_n 0, 1) := by decide +kernel
theorem dX12_begin_19 : decode cX12_begin 19 = .ok (.iconst 0, 1) := by decide +kernel
theorem dX12_begin_20 : decode cX12_begin 20 = .ok (.putfield 111, 3) := by decide +kernel
theorem dX12_begin_23 : decode cX12_begin 23 = .ok (.aload_n 0, 1) := by decide +kernel
theorem dX12_begin_24 : decode cX12_begin 24 = .ok (.iconst (-1), 1) := by decide +kernel
theorem dX12_begin_25 : decode cX12_begin 25 = .ok (.putfield 31, 3) := by decide +kernel
theorem dX12_begin_28 : decode cX12_begin 28 = .ok (.return_, 1) := by decide +kernel
theorem dX12_see_0 : decode cX12_see 0 = .ok (.iload_n 1, 1) := by decide +kernel
theorem dX12_see_1 : decode cX12_see 1 = .ok (.aload_n 0, 1) := by decide +kernel
theorem dX12_see_2 : decode cX12_see 2 = .ok (.getfield 105, 3) := by decide +kernel
theorem dX12_see_5 : decode cX12_see 5 = .ok (.if_icmp .ge 16, 3) := by decide +kernel
theorem dX12_see_21 : decode cX12_see 21 = .ok (.iconst (-1), 1) := by decide +kernel
theorem dX12_see_22 : decode cX12_see 22 = .ok (.ireturn, 1) := by decide +kernel
theorem dX12_see_8 : decode cX12_see 8 = .ok (.aload_n 0, 1) := by decide +kernel
theorem dX12_see_9 : decode cX12_see 9 = .ok (.getfield 24, 3) := by decide +kernel
theorem dX12_see_12 : decode cX12_see 12 = .ok (.iload_n 1, 1) := by decide +kernel
theorem dX12_see_13 : decode cX12_see 13 = .ok (.baload, 1) := by decide +kernel
theorem dX12_see_14 : decode cX12_see 14 = .ok (.sipush 255, 3) := by decide +kernel
theorem dX12_see_17 : decode cX12_see 17 = .ok (.iand, 1) := by decide +kernel
theorem dX12_see_18 : decode cX12_see 18 = .ok (.goto 4, 3) := by decide +kernel
theorem dX12_advance_0 : decode cX12_advance 0 = .ok (.aload_n 0, 1) := by decide +kernel
theorem dX12_advance_1 : decode cX12_advance 1 = .ok (.aload_n 0, 1) := by decide +kernel
theorem dX12_advance_2 : decode cX12_advance 2 = .ok (.getfield 108, 3) := by decide +kernel
theorem dX12_advance_5 : decode cX12_advance 5 = .ok (.invokevirtual 114, 3) := by decide +kernel
theorem dX12_advance_8 : decode cX12_advance 8 = .ok (.bipush 32, 2) := by decide +kernel
theorem dX12_advance_10 : decode cX12_advance 10 = .ok (.if_icmp .eq 16, 3) := by decide +kernel
theorem dX12_advance_26 : decode cX12_advance 26 = .ok (.aload_n 0, 1) := by decide +kernel
theorem dX12_advance_27 : decode cX12_advance 27 = .ok (.dup, 1) := by decide +kernel
theorem dX12_advance_28 : decode cX12_advance 28 = .ok (.getfield 108, 3) := by decide +kernel
theorem dX12_advance_31 : decode cX12_advance 31 = .ok (.iconst 1, 1) := by decide +kernel
theorem dX12_advance_32 : decode cX12_advance 32 = .ok (.iadd, 1) := by decide +kernel
theorem dX12_advance_33 : decode cX12_advance 33 = .ok (.putfield 108, 3) := by decide +kernel
theorem dX12_advance_36 : decode cX12_advance 36 = .ok (.goto (-36), 3) := by decide +kernel
theorem dX12_advance_13 : decode cX12_advance 13 = .ok (.aload_n 0, 1) := by decide +kernel
theorem dX12_advance_14 : decode cX12_advance 14 = .ok (.aload_n 0, 1) := by decide +kernel
theorem dX12_advance_15 : decode cX12_advance 15 = .ok (.getfield 108, 3) := by decide +kernel
theorem dX12_advance_18 : decode cX12_advance 18 = .ok (.invokevirtual 114, 3) := by decide +kernel
theorem dX12_advance_21 : decode cX12_advance 21 = .ok (.bipush 10, 2) := by decide +kernel
theorem dX12_advance_23 : decode cX12_advance 23 = .ok (.if_icmp .ne 16, 3) := by decide +kernel
theorem dX12_advance_39 : decode cX12_advance 39 = .ok (.aload_n 0, 1) := by decide +kernel
theorem dX12_advance_40 : decode cX12_advance 40 = .ok (.aload_n 0, 1) := by decide +kernel
theorem dX12_advance_41 : decode cX12_advance 41 = .ok (.getfield 108, 3) := by decide +kernel
theorem dX12_advance_44 : decode cX12_advance 44 = .ok (.putfield 117, 3) := by decide +kernel
theorem dX12_advance_47 : decode cX12_advance 47 = .ok (.aload_n 0, 1) := by decide +kernel
theorem dX12_advance_48 : decode cX12_advance 48 = .ok (.aload_n 0, 1) := by decide +kernel
theorem dX12_advance_49 : decode cX12_advance 49 = .ok (.getfield 108, 3) := by decide +kernel
theorem dX12_advance_52 : decode cX12_advance 52 = .ok (.invokevirtual 114, 3) := by decide +kernel
theorem dX12_advance_55 : decode cX12_advance 55 = .ok (.istore_n 1, 1) := by decide +kernel
theorem dX12_advance_56 : decode cX12_advance 56 = .ok (.iload_n 1, 1) := by decide +kernel
theorem dX12_advance_57 : decode cX12_advance 57 = .ok (.iconst (-1), 1) := by decide +kernel
theorem dX12_advance_58 : decode cX12_advance 58 = .ok (.if_icmp .ne 11, 3) := by decide +kernel
theorem dX12_advance_69 : decode cX12_advance 69 = .ok (.iload_n 1, 1) := by decide +kernel
theorem dX12_advance_70 : decode cX12_advance 70 = .ok (.i2l, 1) := by decide +kernel
theorem dX12_advance_71 : decode cX12_advance 71 = .ok (.ldc2_w 123, 3) := by decide +kernel
theorem dX12_advance_74 : decode cX12_advance 74 = .ok (.ldc2_w 125, 3) := by decide +kernel
theorem dX12_advance_77 : decode cX12_advance 77 = .ok (.invokestatic 79, 3) := by decide +kernel
theorem dX12_advance_80 : decode cX12_advance 80 = .ok (.ifCond .eq 45, 3) := by decide +kernel
theorem dX12_advance_125 : decode cX12_advance 125 = .ok (.iload_n 1, 1) := by decide +kernel
theorem dX12_advance_126 : decode cX12_advance 126 = .ok (.i2l, 1) := by decide +kernel
theorem dX12_advance_127 : decode cX12_advance 127 = .ok (.ldc2_w 127, 3) := by decide +kernel
theorem dX12_advance_130 : decode cX12_advance 130 = .ok (.ldc2_w 129, 3) := by decide +kernel
theorem dX12_advance_133 : decode cX12_advance 133 = .ok (.invokestatic 79, 3) := by decide +kernel
theorem dX12_advance_136 : decode cX12_advance 136 = .ok (.ifCond .eq 79, 3) := by decide +kernel
theorem dX12_advance_215 : decode cX12_advance 215 = .ok (.aload_n 0, 1) := by decide +kernel
theorem dX12_advance_216 : decode cX12_advance 216 = .ok (.iload_n 1, 1) := by decide +kernel
theorem dX12_advance_217 : decode cX12_advance 217 = .ok (.bipush 59, 2) := by decide +kernel
theorem dX12_advance_219 : decode cX12_advance 219 = .ok (.if_icmp .ne 7, 3) := by decide +kernel
theorem dX12_advance_226 : decode cX12_advance 226 = .ok (.iconst 4, 1) := by decide +kernel
theorem dX12_advance_227 : decode cX12_advance 227 = .ok (.putfield 120, 3) := by decide +kernel
theorem dX12_advance_230 : decode cX12_advance 230 = .ok (.aload_n 0, 1) := by decide +kernel
theorem dX12_advance_231 : decode cX12_advance 231 = .ok (.dup, 1) := by decide +kernel
theorem dX12_advance_232 : decode cX12_advance 232 = .ok (.getfield 108, 3) := by decide +kernel
theorem dX12_advance_235 : decode cX12_advance 235 = .ok (.iconst 1, 1) := by decide +kernel
theorem dX12_advance_236 : decode cX12_advance 236 = .ok (.iadd, 1) := by decide +kernel
theorem dX12_advance_237 : decode cX12_advance 237 = .ok (.putfield 108, 3) := by decide +kernel
theorem dX12_advance_240 : decode cX12_advance 240 = .ok (.return_, 1) := by decide +kernel
theorem dX12_advance_222 : decode cX12_advance 222 = .ok (.iconst 3, 1) := by decide +kernel
theorem dX12_advance_223 : decode cX12_advance 223 = .ok (.goto 4, 3) := by decide +kernel
theorem dX12_advance_139 : decode cX12_advance 139 = .ok (.aload_n 0, 1) := by decide +kernel
theorem dX12_advance_140 : decode cX12_advance 140 = .ok (.iconst 0, 1) := by decide +kernel
theorem dX12_advance_141 : decode cX12_advance 141 = .ok (.putfield 131, 3) := by decide +kernel
theorem dX12_advance_144 : decode cX12_advance 144 = .ok (.aload_n 0, 1) := by decide +kernel
theorem dX12_advance_145 : decode cX12_advance 145 = .ok (.aload_n 0, 1) := by decide +kernel
theorem dX12_advance_146 : decode cX12_advance 146 = .ok (.getfield 108, 3) := by decide +kernel
theorem dX12_advance_149 : decode cX12_advance 149 = .ok (.invokevirtual 114, 3) := by decide +kernel
theorem dX12_advance_152 : decode cX12_advance 152 = .ok (.i2l, 1) := by decide +kernel
theorem dX12_advance_153 : decode cX12_advance 153 = .ok (.ldc2_w 127, 3) := by decide +kernel
theorem dX12_advance_156 : decode cX12_advance 156 = .ok (.ldc2_w 129, 3) := by decide +kernel
theorem dX12_advance_159 : decode cX12_advance 159 = .ok (.invokestatic 79, 3) := by decide +kernel
theorem dX12_advance_162 : decode cX12_advance 162 = .ok (.ifCond .eq 45, 3) := by decide +kernel
theorem dX12_advance_165 : decode cX12_advance 165 = .ok (.aload_n 0, 1) := by decide +kernel
theorem dX12_advance_166 : decode cX12_advance 166 = .ok (.sipush 9999, 3) := by decide +kernel
theorem dX12_advance_169 : decode cX12_advance 169 = .ok (.bipush 10, 2) := by decide +kernel
theorem dX12_advance_171 : decode cX12_advance 171 = .ok (.aload_n 0, 1) := by decide +kernel
theorem dX12_advance_172 : decode cX12_advance 172 = .ok (.getfield 131, 3) := by decide +kernel
theorem dX12_advance_175 : decode cX12_advance 175 = .ok (.imul, 1) := by decide +kernel
theorem dX12_advance_176 : decode cX12_advance 176 = .ok (.aload_n 0, 1) := by decide +kernel
theorem dX12_advance_177 : decode cX12_advance 177 = .ok (.aload_n 0, 1) := by decide +kernel
theorem dX12_advance_178 : decode cX12_advance 178 = .ok (.getfield 108, 3) := by decide +kernel
theorem dX12_advance_181 : decode cX12_advance 181 = .ok (.invokevirtual 114, 3) := by decide +kernel
theorem dX12_advance_184 : decode cX12_advance 184 = .ok (.iadd, 1) := by decide +kernel
theorem dX12_advance_185 : decode cX12_advance 185 = .ok (.bipush 48, 2) := by decide +kernel
theorem dX12_advance_187 : decode cX12_advance 187 = .ok (.isub, 1) := by decide +kernel
theorem dX12_advance_188 : decode cX12_advance 188 = .ok (.invokestatic 134, 3) := by decide +kernel
theorem dX12_advance_191 : decode cX12_advance 191 = .ok (.putfield 131, 3) := by decide +kernel
theorem dX12_advance_194 : decode cX12_advance 194 = .ok (.aload_n 0, 1) := by decide +kernel
theorem dX12_advance_195 : decode cX12_advance 195 = .ok (.dup, 1) := by decide +kernel
theorem dX12_advance_196 : decode cX12_advance 196 = .ok (.getfield 108, 3) := by decide +kernel
theorem dX12_advance_199 : decode cX12_advance 199 = .ok (.iconst 1, 1) := by decide +kernel
theorem dX12_advance_200 : decode cX12_advance 200 = .ok (.iadd, 1) := by decide +kernel
theorem dX12_advance_201 : decode cX12_advance 201 = .ok (.putfield 108, 3) := by decide +kernel
theorem dX12_advance_204 : decode cX12_advance 204 = .ok (.goto (-60), 3) := by decide +kernel
theorem dX12_advance_207 : decode cX12_advance 207 = .ok (.aload_n 0, 1) := by decide +kernel
theorem dX12_advance_208 : decode cX12_advance 208 = .ok (.iconst 2, 1) := by decide +kernel
theorem dX12_advance_209 : decode cX12_advance 209 = .ok (.putfield 120, 3) := by decide +kernel
theorem dX12_advance_212 : decode cX12_advance 212 = .ok (.goto 28, 3) := by decide +kernel
theorem dX12_advance_83 : decode cX12_advance 83 = .ok (.aload_n 0, 1) := by decide +kernel
theorem dX12_advance_84 : decode cX12_advance 84 = .ok (.aload_n 0, 1) := by decide +kernel
theorem dX12_advance_85 : decode cX12_advance 85 = .ok (.getfield 108, 3) := by decide +kernel
theorem dX12_advance_88 : decode cX12_advance 88 = .ok (.invokevirtual 114, 3) := by decide +kernel
theorem dX12_advance_91 : decode cX12_advance 91 = .ok (.i2l, 1) := by decide +kernel
theorem dX12_advance_92 : decode cX12_advance 92 = .ok (.ldc2_w 123, 3) := by decide +kernel
theorem dX12_advance_95 : decode cX12_advance 95 = .ok (.ldc2_w 125, 3) := by decide +kernel
theorem dX12_advance_98 : decode cX12_advance 98 = .ok (.invokestatic 79, 3) := by decide +kernel
theorem dX12_advance_101 : decode cX12_advance 101 = .ok (.ifCond .eq 16, 3) := by decide +kernel
theorem dX12_advance_104 : decode cX12_advance 104 = .ok (.aload_n 0, 1) := by decide +kernel
theorem dX12_advance_105 : decode cX12_advance 105 = .ok (.dup, 1) := by decide +kernel
theorem dX12_advance_106 : decode cX12_advance 106 = .ok (.getfield 108, 3) := by decide +kernel
theorem dX12_advance_109 : decode cX12_advance 109 = .ok (.iconst 1, 1) := by decide +kernel
theorem dX12_advance_110 : decode cX12_advance 110 = .ok (.iadd, 1) := by decide +kernel
theorem dX12_advance_111 : decode cX12_advance 111 = .ok (.putfield 108, 3) := by decide +kernel
theorem dX12_advance_114 : decode cX12_advance 114 = .ok (.goto (-31), 3) := by decide +kernel
theorem dX12_advance_117 : decode cX12_advance 117 = .ok (.aload_n 0, 1) := by decide +kernel
theorem dX12_advance_118 : decode cX12_advance 118 = .ok (.iconst 1, 1) := by decide +kernel
theorem dX12_advance_119 : decode cX12_advance 119 = .ok (.putfield 120, 3) := by decide +kernel
theorem dX12_advance_122 : decode cX12_advance 122 = .ok (.goto 118, 3) := by decide +kernel
theorem dX12_advance_61 : decode cX12_advance 61 = .ok (.aload_n 0, 1) := by decide +kernel
theorem dX12_advance_62 : decode cX12_advance 62 = .ok (.iconst 0, 1) := by decide +kernel
theorem dX12_advance_63 : decode cX12_advance 63 = .ok (.putfield 120, 3) := by decide +kernel
theorem dX12_advance_66 : decode cX12_advance 66 = .ok (.goto 174, 3) := by decide +kernel
theorem dX12_good_0 : decode cX12_good 0 = .ok (.aload_n 0, 1) := by decide +kernel
theorem dX12_good_1 : decode cX12_good 1 = .ok (.getfield 111, 3) := by decide +kernel
theorem dX12_good_4 : decode cX12_good 4 = .ok (.ifCond .ne 7, 3) := by decide +kernel
theorem dX12_good_11 : decode cX12_good 11 = .ok (.iconst 0, 1) := by decide +kernel
theorem dX12_good_12 : decode cX12_good 12 = .ok (.ireturn, 1) := by decide +kernel
theorem dX12_good_7 : decode cX12_good 7 = .ok (.iconst 1, 1) := by decide +kernel
theorem dX12_good_8 : decode cX12_good 8 = .ok (.goto 4, 3) := by decide +kernel
theorem dJ0_coder_7d493_0 : decode cJ0_coder_7d493 0 = .ok (.getstatic 38, 3) := by decide +kernel
theorem dJ0_coder_7d493_3 : decode cJ0_coder_7d493 3 = .ok (.ifCond .eq 10, 3) := by decide +kernel
theorem dJ0_coder_7d493_6 : decode cJ0_coder_7d493 6 = .ok (.aload_n 0, 1) := by decide +kernel
theorem dJ0_coder_7d493_7 : decode cJ0_coder_7d493 7 = .ok (.getfield 15, 3) := by decide +kernel
theorem dJ0_coder_7d493_10 : decode cJ0_coder_7d493 10 = .ok (.goto 4, 3) := by decide +kernel
theorem dJ0_coder_7d493_14 : decode cJ0_coder_7d493 14 = .ok (.ireturn, 1) := by decide +kernel
theorem dJ0_length_8abf5_0 : decode cJ0_length_8abf5 0 = .ok (.aload_n 0, 1) := by decide +kernel
theorem dJ0_length_8abf5_1 : decode cJ0_length_8abf5 1 = .ok (.getfield 9, 3) := by decide +kernel
theorem dJ0_length_8abf5_4 : decode cJ0_length_8abf5 4 = .ok (.arraylength, 1) := by decide +kernel
theorem dJ0_length_8abf5_5 : decode cJ0_length_8abf5 5 = .ok (.aload_n 0, 1) := by decide +kernel
theorem dJ0_length_8abf5_6 : decode cJ0_length_8abf5 6 = .ok (.invokevirtual 335, 3) := by decide +kernel
theorem dJ0_length_8abf5_9 : decode cJ0_length_8abf5 9 = .ok (.ishr, 1) := by decide +kernel
theorem dJ0_length_8abf5_10 : decode cJ0_length_8abf5 10 = .ok (.ireturn, 1) := by decide +kernel
theorem dJ0_isLatin1_aae02_0 : decode cJ0_isLatin1_aae02 0 = .ok (.getstatic 38, 3) := by decide +kernel
theorem dJ0_isLatin1_aae02_3 : decode cJ0_isLatin1_aae02 3 = .ok (.ifCond .eq 14, 3) := by decide +kernel
theorem dJ0_isLatin1_aae02_6 : decode cJ0_isLatin1_aae02 6 = .ok (.aload_n 0, 1) := by decide +kernel
theorem dJ0_isLatin1_aae02_7 : decode cJ0_isLatin1_aae02 7 = .ok (.getfield 15, 3) := by decide +kernel
theorem dJ0_isLatin1_aae02_10 : decode cJ0_isLatin1_aae02 10 = .ok (.ifCond .ne 7, 3) := by decide +kernel
theorem dJ0_isLatin1_aae02_13 : decode cJ0_isLatin1_aae02 13 = .ok (.iconst 1, 1) := by decide +kernel
theorem dJ0_isLatin1_aae02_14 : decode cJ0_isLatin1_aae02 14 = .ok (.goto 4, 3) := by decide +kernel
theorem dJ0_isLatin1_aae02_18 : decode cJ0_isLatin1_aae02 18 = .ok (.ireturn, 1) := by decide +kernel
theorem dJ3_checkIndex_8e157_0 : decode cJ3_checkIndex_8e157 0 = .ok (.iload_n 0, 1) := by decide +kernel
theorem dJ3_checkIndex_8e157_1 : decode cJ3_checkIndex_8e157 1 = .ok (.ifCond .lt 8, 3) := by decide +kernel
theorem dJ3_checkIndex_8e157_4 : decode cJ3_checkIndex_8e157 4 = .ok (.iload_n 0, 1) := by decide +kernel
theorem dJ3_checkIndex_8e157_5 : decode cJ3_checkIndex_8e157 5 = .ok (.iload_n 1, 1) := by decide +kernel
theorem dJ3_checkIndex_8e157_6 : decode cJ3_checkIndex_8e157 6 = .ok (.if_icmp .lt 10, 3) := by decide +kernel
theorem dJ3_checkIndex_8e157_16 : decode cJ3_checkIndex_8e157 16 = .ok (.iload_n 0, 1) := by decide +kernel
theorem dJ3_checkIndex_8e157_17 : decode cJ3_checkIndex_8e157 17 = .ok (.ireturn, 1) := by decide +kernel
theorem dJ0_checkIndex_df160_0 : decode cJ0_checkIndex_df160 0 = .ok (.iload_n 0, 1) := by decide +kernel
theorem dJ0_checkIndex_df160_1 : decode cJ0_checkIndex_df160 1 = .ok (.iload_n 1, 1) := by decide +kernel
theorem dJ0_checkIndex_df160_2 : decode cJ0_checkIndex_df160 2 = .ok (.getstatic 1053, 3) := by decide +kernel
theorem dJ0_checkIndex_df160_5 : decode cJ0_checkIndex_df160 5 = .ok (.invokestatic 1059, 3) := by decide +kernel
theorem dJ0_checkIndex_df160_8 : decode cJ0_checkIndex_df160 8 = .ok (.pop, 1) := by decide +kernel
theorem dJ0_checkIndex_df160_9 : decode cJ0_checkIndex_df160 9 = .ok (.return_, 1) := by decide +kernel
theorem dJ1_charAt_3b067_0 : decode cJ1_charAt_3b067 0 = .ok (.iload_n 1, 1) := by decide +kernel
theorem dJ1_charAt_3b067_1 : decode cJ1_charAt_3b067 1 = .ok (.aload_n 0, 1) := by decide +kernel
theorem dJ1_charAt_3b067_2 : decode cJ1_charAt_3b067 2 = .ok (.arraylength, 1) := by decide +kernel
theorem dJ1_charAt_3b067_3 : decode cJ1_charAt_3b067 3 = .ok (.invokestatic 9, 3) := by decide +kernel
theorem dJ1_charAt_3b067_6 : decode cJ1_charAt_3b067 6 = .ok (.aload_n 0, 1) := by decide +kernel
theorem dJ1_charAt_3b067_7 : decode cJ1_charAt_3b067 7 = .ok (.iload_n 1, 1) := by decide +kernel
theorem dJ1_charAt_3b067_8 : decode cJ1_charAt_3b067 8 = .ok (.baload, 1) := by decide +kernel
theorem dJ1_charAt_3b067_9 : decode cJ1_charAt_3b067 9 = .ok (.sipush 255, 3) := by decide +kernel
theorem dJ1_charAt_3b067_12 : decode cJ1_charAt_3b067 12 = .ok (.iand, 1) := by decide +kernel
theorem dJ1_charAt_3b067_13 : decode cJ1_charAt_3b067 13 = .ok (.i2c, 1) := by decide +kernel
theorem dJ1_charAt_3b067_14 : decode cJ1_charAt_3b067 14 = .ok (.ireturn, 1) := by decide +kernel
theorem dJ0_charAt_5068e_0 : decode cJ0_charAt_5068e 0 = .ok (.aload_n 0, 1) := by decide +kernel
theorem dJ0_charAt_5068e_1 : decode cJ0_charAt_5068e 1 = .ok (.invokevirtual 492, 3) := by decide +kernel
theorem dJ0_charAt_5068e_4 : decode cJ0_charAt_5068e 4 = .ok (.ifCond .eq 12, 3) := by decide +kernel
theorem dJ0_charAt_5068e_7 : decode cJ0_charAt_5068e 7 = .ok (.aload_n 0, 1) := by decide +kernel
theorem dJ0_charAt_5068e_8 : decode cJ0_charAt_5068e 8 = .ok (.getfield 9, 3) := by decide +kernel
theorem dJ0_charAt_5068e_11 : decode cJ0_charAt_5068e 11 = .ok (.iload_n 1, 1) := by decide +kernel
theorem dJ0_charAt_5068e_12 : decode cJ0_charAt_5068e 12 = .ok (.invokestatic 495, 3) := by decide +kernel
theorem dJ0_charAt_5068e_15 : decode cJ0_charAt_5068e 15 = .ok (.ireturn, 1) := by decide +kernel
theorem dX12_is_0 : decode cX12_is 0 = .ok (.aload_n 0, 1) := by decide +kernel
theorem dX12_is_1 : decode cX12_is 1 = .ok (.invokevirtual 139, 3) := by decide +kernel
theorem dX12_is_4 : decode cX12_is 4 = .ok (.ifCond .eq 31, 3) := by decide +kernel
theorem dX12_is_35 : decode cX12_is 35 = .ok (.iconst 0, 1) := by decide +kernel
theorem dX12_is_36 : decode cX12_is 36 = .ok (.istore_n 2, 1) := by decide +kernel
theorem dX12_is_37 : decode cX12_is 37 = .ok (.iconst 0, 1) := by decide +kernel
theorem dX12_is_38 : decode cX12_is 38 = .ok (.istore_n 3, 1) := by decide +kernel
theorem dX12_is_39 : decode cX12_is 39 = .ok (.iload_n 3, 1) := by decide +kernel
theorem dX12_is_40 : decode cX12_is 40 = .ok (.aload_n 1, 1) := by decide +kernel
theorem dX12_is_41 : decode cX12_is 41 = .ok (.invokevirtual 143, 3) := by decide +kernel
theorem dX12_is_44 : decode cX12_is 44 = .ok (.if_icmp .ge 38, 3) := by decide +kernel
theorem dX12_is_82 : decode cX12_is 82 = .ok (.iload_n 2, 1) := by decide +kernel
theorem dX12_is_83 : decode cX12_is 83 = .ok (.ireturn, 1) := by decide +kernel
theorem dX12_is_47 : decode cX12_is 47 = .ok (.iload_n 2, 1) := by decide +kernel
theorem dX12_is_48 : decode cX12_is 48 = .ok (.ifCond .eq 34, 3) := by decide +kernel
theorem dX12_is_51 : decode cX12_is 51 = .ok (.aload_n 0, 1) := by decide +kernel
theorem dX12_is_52 : decode cX12_is 52 = .ok (.getfield 24, 3) := by decide +kernel
theorem dX12_is_55 : decode cX12_is 55 = .ok (.aload_n 0, 1) := by decide +kernel
theorem dX12_is_56 : decode cX12_is 56 = .ok (.getfield 117, 3) := by decide +kernel
theorem dX12_is_59 : decode cX12_is 59 = .ok (.iload_n 3, 1) := by decide +kernel
theorem dX12_is_60 : decode cX12_is 60 = .ok (.iadd, 1) := by decide +kernel
theorem dX12_is_61 : decode cX12_is 61 = .ok (.baload, 1) := by decide +kernel
theorem dX12_is_62 : decode cX12_is 62 = .ok (.aload_n 1, 1) := by decide +kernel
theorem dX12_is_63 : decode cX12_is 63 = .ok (.iload_n 3, 1) := by decide +kernel
theorem dX12_is_64 : decode cX12_is 64 = .ok (.invokevirtual 148, 3) := by decide +kernel
theorem dX12_is_67 : decode cX12_is 67 = .ok (.if_icmp .ne 7, 3) := by decide +kernel
theorem dX12_is_74 : decode cX12_is 74 = .ok (.iconst 0, 1) := by decide +kernel
theorem dX12_is_75 : decode cX12_is 75 = .ok (.istore_n 2, 1) := by decide +kernel
theorem dX12_is_76 : decode cX12_is 76 = .ok (.iinc 3 1, 3) := by decide +kernel
theorem dX12_is_79 : decode cX12_is 79 = .ok (.goto (-40), 3) := by decide +kernel
theorem dX12_is_70 : decode cX12_is 70 = .ok (.iconst 1, 1) := by decide +kernel
theorem dX12_is_71 : decode cX12_is 71 = .ok (.goto 4, 3) := by decide +kernel
theorem dX12_is_7 : decode cX12_is 7 = .ok (.aload_n 0, 1) := by decide +kernel
theorem dX12_is_8 : decode cX12_is 8 = .ok (.getfield 120, 3) := by decide +kernel
theorem dX12_is_11 : decode cX12_is 11 = .ok (.iconst 1, 1) := by decide +kernel
theorem dX12_is_12 : decode cX12_is 12 = .ok (.if_icmp .ne 23, 3) := by decide +kernel
theorem dX12_is_15 : decode cX12_is 15 = .ok (.aload_n 0, 1) := by decide +kernel
theorem dX12_is_16 : decode cX12_is 16 = .ok (.getfield 108, 3) := by decide +kernel
theorem dX12_is_19 : decode cX12_is 19 = .ok (.aload_n 0, 1) := by decide +kernel
theorem dX12_is_20 : decode cX12_is 20 = .ok (.getfield 117, 3) := by decide +kernel
theorem dX12_is_23 : decode cX12_is 23 = .ok (.isub, 1) := by decide +kernel
theorem dX12_is_24 : decode cX12_is 24 = .ok (.aload_n 1, 1) := by decide +kernel
theorem dX12_is_25 : decode cX12_is 25 = .ok (.invokevirtual 143, 3) := by decide +kernel
theorem dX12_is_28 : decode cX12_is 28 = .ok (.if_icmp .ne 7, 3) := by decide +kernel
theorem dX12_is_31 : decode cX12_is 31 = .ok (.iconst 1, 1) := by decide +kernel
theorem dX12_is_32 : decode cX12_is 32 = .ok (.goto 4, 3) := by decide +kernel
theorem dX12_takes_0 : decode cX12_takes 0 = .ok (.aload_n 0, 1) := by decide +kernel
theorem dX12_takes_1 : decode cX12_takes 1 = .ok (.aload_n 1, 1) := by decide +kernel
theorem dX12_takes_2 : decode cX12_takes 2 = .ok (.invokevirtual 152, 3) := by decide +kernel
theorem dX12_takes_5 : decode cX12_takes 5 = .ok (.istore_n 2, 1) := by decide +kernel
theorem dX12_takes_6 : decode cX12_takes 6 = .ok (.iload_n 2, 1) := by decide +kernel
theorem dX12_takes_7 : decode cX12_takes 7 = .ok (.ifCond .eq 7, 3) := by decide +kernel
theorem dX12_takes_14 : decode cX12_takes 14 = .ok (.iload_n 2, 1) := by decide +kernel
theorem dX12_takes_15 : decode cX12_takes 15 = .ok (.ireturn, 1) := by decide +kernel
theorem dX12_takes_10 : decode cX12_takes 10 = .ok (.aload_n 0, 1) := by decide +kernel
theorem dX12_takes_11 : decode cX12_takes 11 = .ok (.invokevirtual 156, 3) := by decide +kernel
theorem dX12_errs_0 : decode cX12_errs 0 = .ok (.aload_n 0, 1) := by decide +kernel
theorem dX12_errs_1 : decode cX12_errs 1 = .ok (.invokevirtual 139, 3) := by decide +kernel
theorem dX12_errs_4 : decode cX12_errs 4 = .ok (.ifCond .ne 4, 3) := by decide +kernel
theorem dX12_errs_8 : decode cX12_errs 8 = .ok (.aload_n 0, 1) := by decide +kernel
theorem dX12_errs_9 : decode cX12_errs 9 = .ok (.iload_n 1, 1) := by decide +kernel
theorem dX12_errs_10 : decode cX12_errs 10 = .ok (.putfield 111, 3) := by decide +kernel
theorem dX12_errs_13 : decode cX12_errs 13 = .ok (.aload_n 0, 1) := by decide +kernel
theorem dX12_errs_14 : decode cX12_errs 14 = .ok (.aload_n 0, 1) := by decide +kernel
theorem dX12_errs_15 : decode cX12_errs 15 = .ok (.getfield 117, 3) := by decide +kernel
theorem dX12_errs_18 : decode cX12_errs 18 = .ok (.putfield 31, 3) := by decide +kernel
theorem dX12_errs_21 : decode cX12_errs 21 = .ok (.return_, 1) := by decide +kernel
theorem dX12_errs_7 : decode cX12_errs 7 = .ok (.return_, 1) := by decide +kernel
theorem dX12_needs_0 : decode cX12_needs 0 = .ok (.aload_n 0, 1) := by decide +kernel
theorem dX12_needs_1 : decode cX12_needs 1 = .ok (.aload_n 1, 1) := by decide +kernel
theorem dX12_needs_2 : decode cX12_needs 2 = .ok (.invokevirtual 159, 3) := by decide +kernel
theorem dX12_needs_5 : decode cX12_needs 5 = .ok (.ifCond .ne 8, 3) := by decide +kernel
theorem dX12_needs_13 : decode cX12_needs 13 = .ok (.return_, 1) := by decide +kernel
theorem dX12_needs_8 : decode cX12_needs 8 = .ok (.aload_n 0, 1) := by decide +kernel
theorem dX12_needs_9 : decode cX12_needs 9 = .ok (.iconst 1, 1) := by decide +kernel
theorem dX12_needs_10 : decode cX12_needs 10 = .ok (.invokevirtual 162, 3) := by decide +kernel
theorem dX12_number_0 : decode cX12_number 0 = .ok (.aload_n 0, 1) := by decide +kernel
theorem dX12_number_1 : decode cX12_number 1 = .ok (.invokevirtual 139, 3) := by decide +kernel
theorem dX12_number_4 : decode cX12_number 4 = .ok (.ifCond .eq 16, 3) := by decide +kernel
theorem dX12_number_20 : decode cX12_number 20 = .ok (.aload_n 0, 1) := by decide +kernel
theorem dX12_number_21 : decode cX12_number 21 = .ok (.invokevirtual 139, 3) := by decide +kernel
theorem dX12_number_24 : decode cX12_number 24 = .ok (.ifCond .eq 23, 3) := by decide +kernel
theorem dX12_number_47 : decode cX12_number 47 = .ok (.aload_n 0, 1) := by decide +kernel
theorem dX12_number_48 : decode cX12_number 48 = .ok (.invokevirtual 139, 3) := by decide +kernel
theorem dX12_number_51 : decode cX12_number 51 = .ok (.ifCond .ne 5, 3) := by decide +kernel
theorem dX12_number_56 : decode cX12_number 56 = .ok (.aload_n 0, 1) := by decide +kernel
theorem dX12_number_57 : decode cX12_number 57 = .ok (.getfield 131, 3) := by decide +kernel
theorem dX12_number_60 : decode cX12_number 60 = .ok (.istore_n 3, 1) := by decide +kernel
theorem dX12_number_61 : decode cX12_number 61 = .ok (.aload_n 0, 1) := by decide +kernel
theorem dX12_number_62 : decode cX12_number 62 = .ok (.invokevirtual 156, 3) := by decide +kernel
theorem dX12_number_65 : decode cX12_number 65 = .ok (.iload_n 3, 1) := by decide +kernel
theorem dX12_number_66 : decode cX12_number 66 = .ok (.ireturn, 1) := by decide +kernel
theorem dX12_number_54 : decode cX12_number 54 = .ok (.iconst 0, 1) := by decide +kernel
theorem dX12_number_55 : decode cX12_number 55 = .ok (.ireturn, 1) := by decide +kernel
theorem dX12_number_27 : decode cX12_number 27 = .ok (.aload_n 0, 1) := by decide +kernel
theorem dX12_number_28 : decode cX12_number 28 = .ok (.getfield 131, 3) := by decide +kernel
theorem dX12_number_31 : decode cX12_number 31 = .ok (.i2l, 1) := by decide +kernel
theorem dX12_number_32 : decode cX12_number 32 = .ok (.iload_n 1, 1) := by decide +kernel
theorem dX12_number_33 : decode cX12_number 33 = .ok (.i2l, 1) := by decide +kernel
theorem dX12_number_34 : decode cX12_number 34 = .ok (.iload_n 2, 1) := by decide +kernel
theorem dX12_number_35 : decode cX12_number 35 = .ok (.i2l, 1) := by decide +kernel
theorem dX12_number_36 : decode cX12_number 36 = .ok (.invokestatic 79, 3) := by decide +kernel
theorem dX12_number_39 : decode cX12_number 39 = .ok (.ifCond .ne 8, 3) := by decide +kernel
theorem dX12_number_42 : decode cX12_number 42 = .ok (.aload_n 0, 1) := by decide +kernel
theorem dX12_number_43 : decode cX12_number 43 = .ok (.iconst 2, 1) := by decide +kernel
theorem dX12_number_44 : decode cX12_number 44 = .ok (.invokevirtual 162, 3) := by decide +kernel
theorem dX12_number_7 : decode cX12_number 7 = .ok (.aload_n 0, 1) := by decide +kernel
theorem dX12_number_8 : decode cX12_number 8 = .ok (.getfield 120, 3) := by decide +kernel
theorem dX12_number_11 : decode cX12_number 11 = .ok (.iconst 2, 1) := by decide +kernel
theorem dX12_number_12 : decode cX12_number 12 = .ok (.if_icmp .eq 8, 3) := by decide +kernel
theorem dX12_number_15 : decode cX12_number 15 = .ok (.aload_n 0, 1) := by decide +kernel
theorem dX12_number_16 : decode cX12_number 16 = .ok (.iconst 1, 1) := by decide +kernel
theorem dX12_number_17 : decode cX12_number 17 = .ok (.invokevirtual 162, 3) := by decide +kernel
theorem dX12_told_0 : decode cX12_told 0 = .ok (.aload_n 0, 1) := by decide +kernel
theorem dX12_told_1 : decode cX12_told 1 = .ok (.aload_n 1, 1) := by decide +kernel
theorem dX12_told_2 : decode cX12_told 2 = .ok (.invokevirtual 166, 3) := by decide +kernel
theorem dX12_told_5 : decode cX12_told 5 = .ok (.aload_n 0, 1) := by decide +kernel
theorem dX12_told_6 : decode cX12_told 6 = .ok (.iload_n 2, 1) := by decide +kernel
theorem dX12_told_7 : decode cX12_told 7 = .ok (.iload_n 3, 1) := by decide +kernel
theorem dX12_told_8 : decode cX12_told 8 = .ok (.invokevirtual 170, 3) := by decide +kernel
theorem dX12_told_11 : decode cX12_told 11 = .ok (.ireturn, 1) := by decide +kernel
theorem dX12_ends_0 : decode cX12_ends 0 = .ok (.aload_n 0, 1) := by decide +kernel
theorem dX12_ends_1 : decode cX12_ends 1 = .ok (.invokevirtual 139, 3) := by decide +kernel
theorem dX12_ends_4 : decode cX12_ends 4 = .ok (.ifCond .eq 16, 3) := by decide +kernel
theorem dX12_ends_20 : decode cX12_ends 20 = .ok (.aload_n 0, 1) := by decide +kernel
theorem dX12_ends_21 : decode cX12_ends 21 = .ok (.invokevirtual 139, 3) := by decide +kernel
theorem dX12_ends_24 : decode cX12_ends 24 = .ok (.ifCond .eq 7, 3) := by decide +kernel
theorem dX12_ends_31 : decode cX12_ends 31 = .ok (.return_, 1) := by decide +kernel
theorem dX12_ends_27 : decode cX12_ends 27 = .ok (.aload_n 0, 1) := by decide +kernel
theorem dX12_ends_28 : decode cX12_ends 28 = .ok (.invokevirtual 156, 3) := by decide +kernel
theorem dX12_ends_7 : decode cX12_ends 7 = .ok (.aload_n 0, 1) := by decide +kernel
theorem dX12_ends_8 : decode cX12_ends 8 = .ok (.getfield 120, 3) := by decide +kernel
theorem dX12_ends_11 : decode cX12_ends 11 = .ok (.iconst 3, 1) := by decide +kernel
theorem dX12_ends_12 : decode cX12_ends 12 = .ok (.if_icmp .eq 8, 3) := by decide +kernel
theorem dX12_ends_15 : decode cX12_ends 15 = .ok (.aload_n 0, 1) := by decide +kernel
theorem dX12_ends_16 : decode cX12_ends 16 = .ok (.iconst 1, 1) := by decide +kernel
theorem dX12_ends_17 : decode cX12_ends 17 = .ok (.invokevirtual 162, 3) := by decide +kernel
theorem dX12_endsAll_0 : decode cX12_endsAll 0 = .ok (.aload_n 0, 1) := by decide +kernel
theorem dX12_endsAll_1 : decode cX12_endsAll 1 = .ok (.invokevirtual 139, 3) := by decide +kernel
theorem dX12_endsAll_4 : decode cX12_endsAll 4 = .ok (.ifCond .eq 15, 3) := by decide +kernel
theorem dX12_endsAll_19 : decode cX12_endsAll 19 = .ok (.return_, 1) := by decide +kernel
theorem dX12_endsAll_7 : decode cX12_endsAll 7 = .ok (.aload_n 0, 1) := by decide +kernel
theorem dX12_endsAll_8 : decode cX12_endsAll 8 = .ok (.getfield 120, 3) := by decide +kernel
theorem dX12_endsAll_11 : decode cX12_endsAll 11 = .ok (.ifCond .eq 8, 3) := by decide +kernel
theorem dX12_endsAll_14 : decode cX12_endsAll 14 = .ok (.aload_n 0, 1) := by decide +kernel
theorem dX12_endsAll_15 : decode cX12_endsAll 15 = .ok (.iconst 1, 1) := by decide +kernel
theorem dX12_endsAll_16 : decode cX12_endsAll 16 = .ok (.invokevirtual 162, 3) := by decide +kernel
theorem dX12_hand_0 : decode cX12_hand 0 = .ok (.aload_n 0, 1) := by decide +kernel
theorem dX12_hand_1 : decode cX12_hand 1 = .ok (.invokevirtual 181, 3) := by decide +kernel
theorem dX12_hand_4 : decode cX12_hand 4 = .ok (.aload_n 0, 1) := by decide +kernel
theorem dX12_hand_5 : decode cX12_hand 5 = .ok (.invokevirtual 156, 3) := by decide +kernel
theorem dX12_hand_8 : decode cX12_hand 8 = .ok (.aload_n 0, 1) := by decide +kernel
theorem dX12_hand_9 : decode cX12_hand 9 = .ok (.ldc 210, 2) := by decide +kernel
theorem dX12_hand_11 : decode cX12_hand 11 = .ok (.invokevirtual 166, 3) := by decide +kernel
theorem dX12_hand_14 : decode cX12_hand 14 = .ok (.aload_n 0, 1) := by decide +kernel
theorem dX12_hand_15 : decode cX12_hand 15 = .ok (.getfield 34, 3) := by decide +kernel
theorem dX12_hand_18 : decode cX12_hand 18 = .ok (.bipush 10, 2) := by decide +kernel
theorem dX12_hand_20 : decode cX12_hand 20 = .ok (.aload_n 0, 1) := by decide +kernel
theorem dX12_hand_21 : decode cX12_hand 21 = .ok (.ldc 212, 2) := by decide +kernel
theorem dX12_hand_23 : decode cX12_hand 23 = .ok (.iconst 0, 1) := by decide +kernel
theorem dX12_hand_24 : decode cX12_hand 24 = .ok (.bipush 100, 2) := by decide +kernel
theorem dX12_hand_26 : decode cX12_hand 26 = .ok (.invokevirtual 189, 3) := by decide +kernel
theorem dX12_hand_29 : decode cX12_hand 29 = .ok (.iastore, 1) := by decide +kernel
theorem dX12_hand_30 : decode cX12_hand 30 = .ok (.aload_n 0, 1) := by decide +kernel
theorem dX12_hand_31 : decode cX12_hand 31 = .ok (.getfield 34, 3) := by decide +kernel
theorem dX12_hand_34 : decode cX12_hand 34 = .ok (.bipush 11, 2) := by decide +kernel
theorem dX12_hand_36 : decode cX12_hand 36 = .ok (.aload_n 0, 1) := by decide +kernel
theorem dX12_hand_37 : decode cX12_hand 37 = .ok (.ldc 214, 2) := by decide +kernel
theorem dX12_hand_39 : decode cX12_hand 39 = .ok (.iconst 0, 1) := by decide +kernel
theorem dX12_hand_40 : decode cX12_hand 40 = .ok (.bipush 100, 2) := by decide +kernel
theorem dX12_hand_42 : decode cX12_hand 42 = .ok (.invokevirtual 189, 3) := by decide +kernel
theorem dX12_hand_45 : decode cX12_hand 45 = .ok (.iastore, 1) := by decide +kernel
theorem dX12_hand_46 : decode cX12_hand 46 = .ok (.aload_n 0, 1) := by decide +kernel
theorem dX12_hand_47 : decode cX12_hand 47 = .ok (.getfield 34, 3) := by decide +kernel
theorem dX12_hand_50 : decode cX12_hand 50 = .ok (.bipush 12, 2) := by decide +kernel
theorem dX12_hand_52 : decode cX12_hand 52 = .ok (.aload_n 0, 1) := by decide +kernel
theorem dX12_hand_53 : decode cX12_hand 53 = .ok (.ldc 216, 2) := by decide +kernel
theorem dX12_hand_55 : decode cX12_hand 55 = .ok (.iconst 0, 1) := by decide +kernel
theorem dX12_hand_56 : decode cX12_hand 56 = .ok (.bipush 100, 2) := by decide +kernel
theorem dX12_hand_58 : decode cX12_hand 58 = .ok (.invokevirtual 189, 3) := by decide +kernel
theorem dX12_hand_61 : decode cX12_hand 61 = .ok (.iastore, 1) := by decide +kernel
theorem dX12_hand_62 : decode cX12_hand 62 = .ok (.aload_n 0, 1) := by decide +kernel
theorem dX12_hand_63 : decode cX12_hand 63 = .ok (.invokevirtual 178, 3) := by decide +kernel
theorem dX12_hand_66 : decode cX12_hand 66 = .ok (.aload_n 0, 1) := by decide +kernel
theorem dX12_hand_67 : decode cX12_hand 67 = .ok (.invokevirtual 218, 3) := by decide +kernel
theorem dX12_hand_70 : decode cX12_hand 70 = .ok (.aload_n 0, 1) := by decide +kernel
theorem dX12_hand_71 : decode cX12_hand 71 = .ok (.invokevirtual 139, 3) := by decide +kernel
theorem dX12_hand_74 : decode cX12_hand 74 = .ok (.ifCond .ne 6, 3) := by decide +kernel
theorem dX12_hand_80 : decode cX12_hand 80 = .ok (.aload_n 0, 1) := by decide +kernel
theorem dX12_hand_81 : decode cX12_hand 81 = .ok (.bipush 10, 2) := by decide +kernel
theorem dX12_hand_83 : decode cX12_hand 83 = .ok (.bipush 13, 2) := by decide +kernel
theorem dX12_hand_85 : decode cX12_hand 85 = .ok (.invokevirtual 197, 3) := by decide +kernel
theorem dX12_hand_88 : decode cX12_hand 88 = .ok (.iconst 0, 1) := by decide +kernel
theorem dX12_hand_89 : decode cX12_hand 89 = .ok (.ireturn, 1) := by decide +kernel
theorem dX12_hand_77 : decode cX12_hand 77 = .ok (.bipush (-4), 2) := by decide +kernel
theorem dX12_hand_79 : decode cX12_hand 79 = .ok (.ireturn, 1) := by decide +kernel
theorem dX12_isWay_0 : decode cX12_isWay 0 = .ok (.iload_n 0, 1) := by decide +kernel
theorem dX12_isWay_1 : decode cX12_isWay 1 = .ok (.i2l, 1) := by decide +kernel
theorem dX12_isWay_2 : decode cX12_isWay 2 = .ok (.lconst 0, 1) := by decide +kernel
theorem dX12_isWay_3 : decode cX12_isWay 3 = .ok (.ldc2_w 92, 3) := by decide +kernel
theorem dX12_isWay_6 : decode cX12_isWay 6 = .ok (.invokestatic 79, 3) := by decide +kernel
theorem dX12_isWay_9 : decode cX12_isWay 9 = .ok (.ireturn, 1) := by decide +kernel
theorem dX12_signOf_0 : decode cX12_signOf 0 = .ok (.iload_n 0, 1) := by decide +kernel
theorem dX12_signOf_1 : decode cX12_signOf 1 = .ok (.bipush 107, 2) := by decide +kernel
theorem dX12_signOf_3 : decode cX12_signOf 3 = .ok (.if_icmp .ne 7, 3) := by decide +kernel
theorem dX12_signOf_10 : decode cX12_signOf 10 = .ok (.iload_n 0, 1) := by decide +kernel
theorem dX12_signOf_11 : decode cX12_signOf 11 = .ok (.bipush 112, 2) := by decide +kernel
theorem dX12_signOf_13 : decode cX12_signOf 13 = .ok (.if_icmp .ne 7, 3) := by decide +kernel
theorem dX12_signOf_20 : decode cX12_signOf 20 = .ok (.iload_n 0, 1) := by decide +kernel
theorem dX12_signOf_21 : decode cX12_signOf 21 = .ok (.bipush 102, 2) := by decide +kernel
theorem dX12_signOf_23 : decode cX12_signOf 23 = .ok (.if_icmp .ne 7, 3) := by decide +kernel
theorem dX12_signOf_30 : decode cX12_signOf 30 = .ok (.iload_n 0, 1) := by decide +kernel
theorem dX12_signOf_31 : decode cX12_signOf 31 = .ok (.bipush 104, 2) := by decide +kernel
theorem dX12_signOf_33 : decode cX12_signOf 33 = .ok (.if_icmp .ne 7, 3) := by decide +kernel
theorem dX12_signOf_40 : decode cX12_signOf 40 = .ok (.iload_n 0, 1) := by decide +kernel
theorem dX12_signOf_41 : decode cX12_signOf 41 = .ok (.bipush 109, 2) := by decide +kernel
theorem dX12_signOf_43 : decode cX12_signOf 43 = .ok (.if_icmp .ne 7, 3) := by decide +kernel
theorem dX12_signOf_50 : decode cX12_signOf 50 = .ok (.iconst (-1), 1) := by decide +kernel
theorem dX12_signOf_51 : decode cX12_signOf 51 = .ok (.ireturn, 1) := by decide +kernel
theorem dX12_signOf_46 : decode cX12_signOf 46 = .ok (.iconst 4, 1) := by decide +kernel
theorem dX12_signOf_47 : decode cX12_signOf 47 = .ok (.goto 4, 3) := by decide +kernel
theorem dX12_signOf_36 : decode cX12_signOf 36 = .ok (.iconst 3, 1) := by decide +kernel
theorem dX12_signOf_37 : decode cX12_signOf 37 = .ok (.goto 14, 3) := by decide +kernel
theorem dX12_signOf_26 : decode cX12_signOf 26 = .ok (.iconst 2, 1) := by decide +kernel
theorem dX12_signOf_27 : decode cX12_signOf 27 = .ok (.goto 24, 3) := by decide +kernel
theorem dX12_signOf_16 : decode cX12_signOf 16 = .ok (.iconst 1, 1) := by decide +kernel
theorem dX12_signOf_17 : decode cX12_signOf 17 = .ok (.goto 34, 3) := by decide +kernel
theorem dX12_signOf_6 : decode cX12_signOf 6 = .ok (.iconst 0, 1) := by decide +kernel
theorem dX12_signOf_7 : decode cX12_signOf 7 = .ok (.goto 44, 3) := by decide +kernel
theorem dX12_sortsHere_0 : decode cX12_sortsHere 0 = .ok (.iconst 0, 1) := by decide +kernel
theorem dX12_sortsHere_1 : decode cX12_sortsHere 1 = .ok (.istore_n 1, 1) := by decide +kernel
theorem dX12_sortsHere_2 : decode cX12_sortsHere 2 = .ok (.aload_n 0, 1) := by decide +kernel
theorem dX12_sortsHere_3 : decode cX12_sortsHere 3 = .ok (.getfield 120, 3) := by decide +kernel
theorem dX12_sortsHere_6 : decode cX12_sortsHere 6 = .ok (.iconst 1, 1) := by decide +kernel
theorem dX12_sortsHere_7 : decode cX12_sortsHere 7 = .ok (.if_icmp .eq 5, 3) := by decide +kernel
theorem dX12_sortsHere_12 : decode cX12_sortsHere 12 = .ok (.aload_n 0, 1) := by decide +kernel
theorem dX12_sortsHere_13 : decode cX12_sortsHere 13 = .ok (.getfield 117, 3) := by decide +kernel
theorem dX12_sortsHere_16 : decode cX12_sortsHere 16 = .ok (.istore_n 2, 1) := by decide +kernel
theorem dX12_sortsHere_17 : decode cX12_sortsHere 17 = .ok (.iload_n 2, 1) := by decide +kernel
theorem dX12_sortsHere_18 : decode cX12_sortsHere 18 = .ok (.aload_n 0, 1) := by decide +kernel
theorem dX12_sortsHere_19 : decode cX12_sortsHere 19 = .ok (.getfield 108, 3) := by decide +kernel
theorem dX12_sortsHere_22 : decode cX12_sortsHere 22 = .ok (.if_icmp .ge 41, 3) := by decide +kernel
theorem dX12_sortsHere_63 : decode cX12_sortsHere 63 = .ok (.iload_n 1, 1) := by decide +kernel
theorem dX12_sortsHere_64 : decode cX12_sortsHere 64 = .ok (.ireturn, 1) := by decide +kernel
theorem dX12_sortsHere_25 : decode cX12_sortsHere 25 = .ok (.aload_n 0, 1) := by decide +kernel
theorem dX12_sortsHere_26 : decode cX12_sortsHere 26 = .ok (.getfield 24, 3) := by decide +kernel
theorem dX12_sortsHere_29 : decode cX12_sortsHere 29 = .ok (.iload_n 2, 1) := by decide +kernel
theorem dX12_sortsHere_30 : decode cX12_sortsHere 30 = .ok (.baload, 1) := by decide +kernel
theorem dX12_sortsHere_31 : decode cX12_sortsHere 31 = .ok (.invokestatic 175, 3) := by decide +kernel
theorem dX12_sortsHere_34 : decode cX12_sortsHere 34 = .ok (.istore_n 3, 1) := by decide +kernel
theorem dX12_sortsHere_35 : decode cX12_sortsHere 35 = .ok (.iload_n 3, 1) := by decide +kernel
theorem dX12_sortsHere_36 : decode cX12_sortsHere 36 = .ok (.iconst 2, 1) := by decide +kernel
theorem dX12_sortsHere_37 : decode cX12_sortsHere 37 = .ok (.if_icmp .lt 12, 3) := by decide +kernel
theorem dX12_sortsHere_49 : decode cX12_sortsHere 49 = .ok (.iconst (-1), 1) := by decide +kernel
theorem dX12_sortsHere_50 : decode cX12_sortsHere 50 = .ok (.ireturn, 1) := by decide +kernel
theorem dX12_sortsHere_40 : decode cX12_sortsHere 40 = .ok (.iload_n 1, 1) := by decide +kernel
theorem dX12_sortsHere_41 : decode cX12_sortsHere 41 = .ok (.iload_n 3, 1) := by decide +kernel
theorem dX12_sortsHere_42 : decode cX12_sortsHere 42 = .ok (.ishr, 1) := by decide +kernel
theorem dX12_sortsHere_43 : decode cX12_sortsHere 43 = .ok (.iconst 1, 1) := by decide +kernel
theorem dX12_sortsHere_44 : decode cX12_sortsHere 44 = .ok (.iand, 1) := by decide +kernel
theorem dX12_sortsHere_45 : decode cX12_sortsHere 45 = .ok (.iconst 1, 1) := by decide +kernel
theorem dX12_sortsHere_46 : decode cX12_sortsHere 46 = .ok (.if_icmp .ne 5, 3) := by decide +kernel
theorem dX12_sortsHere_51 : decode cX12_sortsHere 51 = .ok (.iload_n 1, 1) := by decide +kernel
theorem dX12_sortsHere_52 : decode cX12_sortsHere 52 = .ok (.iconst 1, 1) := by decide +kernel
theorem dX12_sortsHere_53 : decode cX12_sortsHere 53 = .ok (.iload_n 3, 1) := by decide +kernel
theorem dX12_sortsHere_54 : decode cX12_sortsHere 54 = .ok (.ishl, 1) := by decide +kernel
theorem dX12_sortsHere_55 : decode cX12_sortsHere 55 = .ok (.ior, 1) := by decide +kernel
theorem dX12_sortsHere_56 : decode cX12_sortsHere 56 = .ok (.istore_n 1, 1) := by decide +kernel
theorem dX12_sortsHere_57 : decode cX12_sortsHere 57 = .ok (.iinc 2 1, 3) := by decide +kernel
theorem dX12_sortsHere_60 : decode cX12_sortsHere 60 = .ok (.goto (-43), 3) := by decide +kernel
theorem dX12_sortsHere_10 : decode cX12_sortsHere 10 = .ok (.iconst (-1), 1) := by decide +kernel
theorem dX12_sortsHere_11 : decode cX12_sortsHere 11 = .ok (.ireturn, 1) := by decide +kernel
theorem dX12_rows_0 : decode cX12_rows 0 = .ok (.aload_n 0, 1) := by decide +kernel
theorem dX12_rows_1 : decode cX12_rows 1 = .ok (.getfield 13, 3) := by decide +kernel
theorem dX12_rows_4 : decode cX12_rows 4 = .ok (.iconst 0, 1) := by decide +kernel
theorem dX12_rows_5 : decode cX12_rows 5 = .ok (.iaload, 1) := by decide +kernel
theorem dX12_rows_6 : decode cX12_rows 6 = .ok (.ireturn, 1) := by decide +kernel
theorem dX12_wide_0 : decode cX12_wide 0 = .ok (.aload_n 0, 1) := by decide +kernel
theorem dX12_wide_1 : decode cX12_wide 1 = .ok (.getfield 13, 3) := by decide +kernel
theorem dX12_wide_4 : decode cX12_wide 4 = .ok (.iconst 1, 1) := by decide +kernel
theorem dX12_wide_5 : decode cX12_wide 5 = .ok (.iaload, 1) := by decide +kernel
theorem dX12_wide_6 : decode cX12_wide 6 = .ok (.ireturn, 1) := by decide +kernel
theorem dX12_area_0 : decode cX12_area 0 = .ok (.aload_n 0, 1) := by decide +kernel
theorem dX12_area_1 : decode cX12_area 1 = .ok (.invokevirtual 83, 3) := by decide +kernel
theorem dX12_area_4 : decode cX12_area 4 = .ok (.aload_n 0, 1) := by decide +kernel
theorem dX12_area_5 : decode cX12_area 5 = .ok (.invokevirtual 87, 3) := by decide +kernel
theorem dX12_area_8 : decode cX12_area 8 = .ok (.imul, 1) := by decide +kernel
theorem dX12_area_9 : decode cX12_area 9 = .ok (.ireturn, 1) := by decide +kernel
theorem dX12_ofWay_0 : decode cX12_ofWay 0 = .ok (.aload_n 0, 1) := by decide +kernel
theorem dX12_ofWay_1 : decode cX12_ofWay 1 = .ok (.getfield 13, 3) := by decide +kernel
theorem dX12_ofWay_4 : decode cX12_ofWay 4 = .ok (.bipush 120, 2) := by decide +kernel
theorem dX12_ofWay_6 : decode cX12_ofWay 6 = .ok (.bipush 7, 2) := by decide +kernel
theorem dX12_ofWay_8 : decode cX12_ofWay 8 = .ok (.iload_n 1, 1) := by decide +kernel
theorem dX12_ofWay_9 : decode cX12_ofWay 9 = .ok (.imul, 1) := by decide +kernel
theorem dX12_ofWay_10 : decode cX12_ofWay 10 = .ok (.iadd, 1) := by decide +kernel
theorem dX12_ofWay_11 : decode cX12_ofWay 11 = .ok (.iload_n 2, 1) := by decide +kernel
theorem dX12_ofWay_12 : decode cX12_ofWay 12 = .ok (.iadd, 1) := by decide +kernel
theorem dX12_ofWay_13 : decode cX12_ofWay 13 = .ok (.iaload, 1) := by decide +kernel
theorem dX12_ofWay_14 : decode cX12_ofWay 14 = .ok (.ireturn, 1) := by decide +kernel
theorem dX12_sortOf_0 : decode cX12_sortOf 0 = .ok (.iload_n 1, 1) := by decide +kernel
theorem dX12_sortOf_1 : decode cX12_sortOf 1 = .ok (.aload_n 0, 1) := by decide +kernel
theorem dX12_sortOf_2 : decode cX12_sortOf 2 = .ok (.invokevirtual 87, 3) := by decide +kernel
theorem dX12_sortOf_5 : decode cX12_sortOf 5 = .ok (.idiv, 1) := by decide +kernel
theorem dX12_sortOf_6 : decode cX12_sortOf 6 = .ok (.aload_n 0, 1) := by decide +kernel
theorem dX12_sortOf_7 : decode cX12_sortOf 7 = .ok (.getfield 13, 3) := by decide +kernel
theorem dX12_sortOf_10 : decode cX12_sortOf 10 = .ok (.iconst 2, 1) := by decide +kernel
theorem dX12_sortOf_11 : decode cX12_sortOf 11 = .ok (.iaload, 1) := by decide +kernel
theorem dX12_sortOf_12 : decode cX12_sortOf 12 = .ok (.irem, 1) := by decide +kernel
theorem dX12_sortOf_13 : decode cX12_sortOf 13 = .ok (.istore_n 2, 1) := by decide +kernel
theorem dX12_sortOf_14 : decode cX12_sortOf 14 = .ok (.bipush 16, 2) := by decide +kernel
theorem dX12_sortOf_16 : decode cX12_sortOf 16 = .ok (.bipush 13, 2) := by decide +kernel
theorem dX12_sortOf_18 : decode cX12_sortOf 18 = .ok (.iload_n 2, 1) := by decide +kernel
theorem dX12_sortOf_19 : decode cX12_sortOf 19 = .ok (.imul, 1) := by decide +kernel
theorem dX12_sortOf_20 : decode cX12_sortOf 20 = .ok (.iadd, 1) := by decide +kernel
theorem dX12_sortOf_21 : decode cX12_sortOf 21 = .ok (.istore_n 3, 1) := by decide +kernel
theorem dX12_sortOf_22 : decode cX12_sortOf 22 = .ok (.aload_n 0, 1) := by decide +kernel
theorem dX12_sortOf_23 : decode cX12_sortOf 23 = .ok (.getfield 13, 3) := by decide +kernel
theorem dX12_sortOf_26 : decode cX12_sortOf 26 = .ok (.iload_n 3, 1) := by decide +kernel
theorem dX12_sortOf_27 : decode cX12_sortOf 27 = .ok (.iconst 1, 1) := by decide +kernel
theorem dX12_sortOf_28 : decode cX12_sortOf 28 = .ok (.iadd, 1) := by decide +kernel
theorem dX12_sortOf_29 : decode cX12_sortOf 29 = .ok (.iload_n 1, 1) := by decide +kernel
theorem dX12_sortOf_30 : decode cX12_sortOf 30 = .ok (.aload_n 0, 1) := by decide +kernel
theorem dX12_sortOf_31 : decode cX12_sortOf 31 = .ok (.invokevirtual 87, 3) := by decide +kernel
theorem dX12_sortOf_34 : decode cX12_sortOf 34 = .ok (.irem, 1) := by decide +kernel
theorem dX12_sortOf_35 : decode cX12_sortOf 35 = .ok (.aload_n 0, 1) := by decide +kernel
theorem dX12_sortOf_36 : decode cX12_sortOf 36 = .ok (.getfield 13, 3) := by decide +kernel
theorem dX12_sortOf_39 : decode cX12_sortOf 39 = .ok (.iload_n 3, 1) := by decide +kernel
theorem dX12_sortOf_40 : decode cX12_sortOf 40 = .ok (.iaload, 1) := by decide +kernel
theorem dX12_sortOf_41 : decode cX12_sortOf 41 = .ok (.irem, 1) := by decide +kernel
theorem dX12_sortOf_42 : decode cX12_sortOf 42 = .ok (.iadd, 1) := by decide +kernel
theorem dX12_sortOf_43 : decode cX12_sortOf 43 = .ok (.iaload, 1) := by decide +kernel
theorem dX12_sortOf_44 : decode cX12_sortOf 44 = .ok (.ireturn, 1) := by decide +kernel
theorem dX12_lists_0 : decode cX12_lists 0 = .ok (.aload_n 0, 1) := by decide +kernel
theorem dX12_lists_1 : decode cX12_lists 1 = .ok (.iconst 0, 1) := by decide +kernel
theorem dX12_lists_2 : decode cX12_lists 2 = .ok (.putfield 335, 3) := by decide +kernel
theorem dX12_lists_5 : decode cX12_lists 5 = .ok (.iconst 0, 1) := by decide +kernel
theorem dX12_lists_6 : decode cX12_lists 6 = .ok (.istore_n 2, 1) := by decide +kernel
theorem dX12_lists_7 : decode cX12_lists 7 = .ok (.iconst 0, 1) := by decide +kernel
theorem dX12_lists_8 : decode cX12_lists 8 = .ok (.istore_n 3, 1) := by decide +kernel
theorem dX12_lists_9 : decode cX12_lists 9 = .ok (.iload_n 3, 1) := by decide +kernel
theorem dX12_lists_10 : decode cX12_lists 10 = .ok (.aload_n 0, 1) := by decide +kernel
theorem dX12_lists_11 : decode cX12_lists 11 = .ok (.invokevirtual 203, 3) := by decide +kernel
theorem dX12_lists_14 : decode cX12_lists 14 = .ok (.if_icmp .ge 157, 3) := by decide +kernel
theorem dX12_lists_171 : decode cX12_lists 171 = .ok (.return_, 1) := by decide +kernel
theorem dX12_lists_17 : decode cX12_lists 17 = .ok (.aload_n 0, 1) := by decide +kernel
theorem dX12_lists_18 : decode cX12_lists 18 = .ok (.iload_n 1, 1) := by decide +kernel
theorem dX12_lists_19 : decode cX12_lists 19 = .ok (.bipush 6, 2) := by decide +kernel
theorem dX12_lists_21 : decode cX12_lists 21 = .ok (.invokevirtual 94, 3) := by decide +kernel
theorem dX12_lists_24 : decode cX12_lists 24 = .ok (.iconst 1, 1) := by decide +kernel
theorem dX12_lists_50 : decode cX12_lists 50 = .ok (.istore 4, 2) := by decide +kernel
theorem dX12_lists_52 : decode cX12_lists 52 = .ok (.aload_n 0, 1) := by decide +kernel
theorem dX12_lists_53 : decode cX12_lists 53 = .ok (.iload_n 1, 1) := by decide +kernel
theorem dX12_lists_54 : decode cX12_lists 54 = .ok (.iconst 5, 1) := by decide +kernel
theorem dX12_lists_55 : decode cX12_lists 55 = .ok (.invokevirtual 94, 3) := by decide +kernel
theorem dX12_lists_58 : decode cX12_lists 58 = .ok (.iconst 1, 1) := by decide +kernel
theorem dX12_lists_92 : decode cX12_lists 92 = .ok (.istore 5, 2) := by decide +kernel
theorem dX12_lists_94 : decode cX12_lists 94 = .ok (.iload 4, 2) := by decide +kernel
theorem dX12_lists_96 : decode cX12_lists 96 = .ok (.aload_n 0, 1) := by decide +kernel
theorem dX12_lists_97 : decode cX12_lists 97 = .ok (.invokevirtual 87, 3) := by decide +kernel
theorem dX12_lists_100 : decode cX12_lists 100 = .ok (.imul, 1) := by decide +kernel
theorem dX12_lists_101 : decode cX12_lists 101 = .ok (.iload 5, 2) := by decide +kernel
theorem dX12_lists_103 : decode cX12_lists 103 = .ok (.iadd, 1) := by decide +kernel
theorem dX12_lists_104 : decode cX12_lists 104 = .ok (.istore 6, 2) := by decide +kernel
theorem dX12_lists_106 : decode cX12_lists 106 = .ok (.aload_n 0, 1) := by decide +kernel
theorem dX12_lists_107 : decode cX12_lists 107 = .ok (.iload_n 1, 1) := by decide +kernel
theorem dX12_lists_108 : decode cX12_lists 108 = .ok (.iconst 1, 1) := by decide +kernel
theorem dX12_lists_109 : decode cX12_lists 109 = .ok (.invokevirtual 94, 3) := by decide +kernel
theorem dX12_lists_112 : decode cX12_lists 112 = .ok (.aload_n 0, 1) := by decide +kernel
theorem dX12_lists_113 : decode cX12_lists 113 = .ok (.iload 6, 2) := by decide +kernel
theorem dX12_lists_115 : decode cX12_lists 115 = .ok (.invokevirtual 98, 3) := by decide +kernel
theorem dX12_lists_118 : decode cX12_lists 118 = .ok (.ishr, 1) := by decide +kernel
theorem dX12_lists_119 : decode cX12_lists 119 = .ok (.iconst 1, 1) := by decide +kernel
theorem dX12_lists_120 : decode cX12_lists 120 = .ok (.iand, 1) := by decide +kernel
theorem dX12_lists_121 : decode cX12_lists 121 = .ok (.ifCond .ne 6, 3) := by decide +kernel
theorem dX12_lists_127 : decode cX12_lists 127 = .ok (.iinc 2 1, 3) := by decide +kernel
theorem dX12_lists_130 : decode cX12_lists 130 = .ok (.iload_n 2, 1) := by decide +kernel
theorem dX12_lists_131 : decode cX12_lists 131 = .ok (.aload_n 0, 1) := by decide +kernel
theorem dX12_lists_132 : decode cX12_lists 132 = .ok (.iload_n 1, 1) := by decide +kernel
theorem dX12_lists_133 : decode cX12_lists 133 = .ok (.iconst 2, 1) := by decide +kernel
theorem dX12_lists_134 : decode cX12_lists 134 = .ok (.invokevirtual 94, 3) := by decide +kernel
theorem dX12_lists_137 : decode cX12_lists 137 = .ok (.irem, 1) := by decide +kernel
theorem dX12_lists_138 : decode cX12_lists 138 = .ok (.ifCond .eq 6, 3) := by decide +kernel
theorem dX12_lists_144 : decode cX12_lists 144 = .ok (.aload_n 0, 1) := by decide +kernel
theorem dX12_lists_145 : decode cX12_lists 145 = .ok (.getfield 40, 3) := by decide +kernel
theorem dX12_lists_148 : decode cX12_lists 148 = .ok (.aload_n 0, 1) := by decide +kernel
theorem dX12_lists_149 : decode cX12_lists 149 = .ok (.getfield 335, 3) := by decide +kernel
theorem dX12_lists_152 : decode cX12_lists 152 = .ok (.iload 6, 2) := by decide +kernel
theorem dX12_lists_154 : decode cX12_lists 154 = .ok (.iastore, 1) := by decide +kernel
theorem dX12_lists_155 : decode cX12_lists 155 = .ok (.aload_n 0, 1) := by decide +kernel
theorem dX12_lists_156 : decode cX12_lists 156 = .ok (.dup, 1) := by decide +kernel
theorem dX12_lists_157 : decode cX12_lists 157 = .ok (.getfield 335, 3) := by decide +kernel
theorem dX12_lists_160 : decode cX12_lists 160 = .ok (.iconst 1, 1) := by decide +kernel
theorem dX12_lists_161 : decode cX12_lists 161 = .ok (.iadd, 1) := by decide +kernel
theorem dX12_lists_162 : decode cX12_lists 162 = .ok (.putfield 335, 3) := by decide +kernel
theorem dX12_lists_165 : decode cX12_lists 165 = .ok (.iinc 3 1, 3) := by decide +kernel
theorem dX12_lists_168 : decode cX12_lists 168 = .ok (.goto (-159), 3) := by decide +kernel
theorem dX12_lists_141 : decode cX12_lists 141 = .ok (.goto 24, 3) := by decide +kernel
theorem dX12_lists_124 : decode cX12_lists 124 = .ok (.goto 41, 3) := by decide +kernel
theorem dX12_lists_59 : decode cX12_lists 59 = .ok (.if_icmp .ne 27, 3) := by decide +kernel
theorem dX12_lists_86 : decode cX12_lists 86 = .ok (.iload_n 3, 1) := by decide +kernel
theorem dX12_lists_87 : decode cX12_lists 87 = .ok (.aload_n 0, 1) := by decide +kernel
theorem dX12_lists_88 : decode cX12_lists 88 = .ok (.invokevirtual 87, 3) := by decide +kernel
theorem dX12_lists_91 : decode cX12_lists 91 = .ok (.irem, 1) := by decide +kernel
theorem dX12_lists_62 : decode cX12_lists 62 = .ok (.iload 4, 2) := by decide +kernel
theorem dX12_lists_64 : decode cX12_lists 64 = .ok (.iconst 2, 1) := by decide +kernel
theorem dX12_lists_65 : decode cX12_lists 65 = .ok (.irem, 1) := by decide +kernel
theorem dX12_lists_66 : decode cX12_lists 66 = .ok (.iconst 1, 1) := by decide +kernel
theorem dX12_lists_67 : decode cX12_lists 67 = .ok (.if_icmp .ne 19, 3) := by decide +kernel
theorem dX12_lists_70 : decode cX12_lists 70 = .ok (.aload_n 0, 1) := by decide +kernel
theorem dX12_lists_71 : decode cX12_lists 71 = .ok (.invokevirtual 87, 3) := by decide +kernel
theorem dX12_lists_74 : decode cX12_lists 74 = .ok (.iconst 1, 1) := by decide +kernel
theorem dX12_lists_75 : decode cX12_lists 75 = .ok (.isub, 1) := by decide +kernel
theorem dX12_lists_76 : decode cX12_lists 76 = .ok (.iload_n 3, 1) := by decide +kernel
theorem dX12_lists_77 : decode cX12_lists 77 = .ok (.aload_n 0, 1) := by decide +kernel
theorem dX12_lists_78 : decode cX12_lists 78 = .ok (.invokevirtual 87, 3) := by decide +kernel
theorem dX12_lists_81 : decode cX12_lists 81 = .ok (.irem, 1) := by decide +kernel
theorem dX12_lists_82 : decode cX12_lists 82 = .ok (.isub, 1) := by decide +kernel
theorem dX12_lists_83 : decode cX12_lists 83 = .ok (.goto 9, 3) := by decide +kernel
theorem dX12_lists_25 : decode cX12_lists 25 = .ok (.if_icmp .ne 19, 3) := by decide +kernel
theorem dX12_lists_44 : decode cX12_lists 44 = .ok (.iload_n 3, 1) := by decide +kernel
theorem dX12_lists_45 : decode cX12_lists 45 = .ok (.aload_n 0, 1) := by decide +kernel
theorem dX12_lists_46 : decode cX12_lists 46 = .ok (.invokevirtual 87, 3) := by decide +kernel
theorem dX12_lists_49 : decode cX12_lists 49 = .ok (.idiv, 1) := by decide +kernel
theorem dX12_lists_28 : decode cX12_lists 28 = .ok (.aload_n 0, 1) := by decide +kernel
theorem dX12_lists_29 : decode cX12_lists 29 = .ok (.invokevirtual 83, 3) := by decide +kernel
theorem dX12_lists_32 : decode cX12_lists 32 = .ok (.iconst 1, 1) := by decide +kernel
theorem dX12_lists_33 : decode cX12_lists 33 = .ok (.isub, 1) := by decide +kernel
theorem dX12_lists_34 : decode cX12_lists 34 = .ok (.iload_n 3, 1) := by decide +kernel
theorem dX12_lists_35 : decode cX12_lists 35 = .ok (.aload_n 0, 1) := by decide +kernel
theorem dX12_lists_36 : decode cX12_lists 36 = .ok (.invokevirtual 87, 3) := by decide +kernel
theorem dX12_lists_39 : decode cX12_lists 39 = .ok (.idiv, 1) := by decide +kernel
theorem dX12_lists_40 : decode cX12_lists 40 = .ok (.isub, 1) := by decide +kernel
theorem dX12_lists_41 : decode cX12_lists 41 = .ok (.goto 9, 3) := by decide +kernel
theorem dX12_roomOf_0 : decode cX12_roomOf 0 = .ok (.aload_n 0, 1) := by decide +kernel
theorem dX12_roomOf_1 : decode cX12_roomOf 1 = .ok (.iload_n 1, 1) := by decide +kernel
theorem dX12_roomOf_2 : decode cX12_roomOf 2 = .ok (.invokevirtual 338, 3) := by decide +kernel
theorem dX12_roomOf_5 : decode cX12_roomOf 5 = .ok (.aload_n 0, 1) := by decide +kernel
theorem dX12_roomOf_6 : decode cX12_roomOf 6 = .ok (.getfield 335, 3) := by decide +kernel
theorem dX12_roomOf_9 : decode cX12_roomOf 9 = .ok (.aload_n 0, 1) := by decide +kernel
theorem dX12_roomOf_10 : decode cX12_roomOf 10 = .ok (.iload_n 1, 1) := by decide +kernel
theorem dX12_roomOf_11 : decode cX12_roomOf 11 = .ok (.iconst 3, 1) := by decide +kernel
theorem dX12_roomOf_12 : decode cX12_roomOf 12 = .ok (.invokevirtual 94, 3) := by decide +kernel
theorem dX12_roomOf_15 : decode cX12_roomOf 15 = .ok (.idiv, 1) := by decide +kernel
theorem dX12_roomOf_16 : decode cX12_roomOf 16 = .ok (.aload_n 0, 1) := by decide +kernel
theorem dX12_roomOf_17 : decode cX12_roomOf 17 = .ok (.iload_n 1, 1) := by decide +kernel
theorem dX12_roomOf_18 : decode cX12_roomOf 18 = .ok (.iconst 4, 1) := by decide +kernel
theorem dX12_roomOf_19 : decode cX12_roomOf 19 = .ok (.invokevirtual 94, 3) := by decide +kernel
theorem dX12_roomOf_22 : decode cX12_roomOf 22 = .ok (.idiv, 1) := by decide +kernel
theorem dX12_roomOf_23 : decode cX12_roomOf 23 = .ok (.ireturn, 1) := by decide +kernel
theorem dX12_way_0 : decode cX12_way 0 = .ok (.iload_n 1, 1) := by decide +kernel
theorem dX12_way_1 : decode cX12_way 1 = .ok (.invokestatic 221, 3) := by decide +kernel
theorem dX12_way_4 : decode cX12_way 4 = .ok (.ifCond .ne 6, 3) := by decide +kernel
theorem dX12_way_10 : decode cX12_way 10 = .ok (.aload_n 0, 1) := by decide +kernel
theorem dX12_way_11 : decode cX12_way 11 = .ok (.invokevirtual 181, 3) := by decide +kernel
theorem dX12_way_14 : decode cX12_way 14 = .ok (.aload_n 0, 1) := by decide +kernel
theorem dX12_way_15 : decode cX12_way 15 = .ok (.invokevirtual 156, 3) := by decide +kernel
theorem dX12_way_18 : decode cX12_way 18 = .ok (.aload_n 0, 1) := by decide +kernel
theorem dX12_way_19 : decode cX12_way 19 = .ok (.ldc 224, 2) := by decide +kernel
theorem dX12_way_21 : decode cX12_way 21 = .ok (.invokevirtual 166, 3) := by decide +kernel
theorem dX12_way_24 : decode cX12_way 24 = .ok (.aload_n 0, 1) := by decide +kernel
theorem dX12_way_25 : decode cX12_way 25 = .ok (.ldc 226, 2) := by decide +kernel
theorem dX12_way_27 : decode cX12_way 27 = .ok (.invokevirtual 166, 3) := by decide +kernel
theorem dX12_way_30 : decode cX12_way 30 = .ok (.bipush 120, 2) := by decide +kernel
theorem dX12_way_32 : decode cX12_way 32 = .ok (.bipush 7, 2) := by decide +kernel
theorem dX12_way_34 : decode cX12_way 34 = .ok (.iload_n 1, 1) := by decide +kernel
theorem dX12_way_35 : decode cX12_way 35 = .ok (.imul, 1) := by decide +kernel
theorem dX12_way_36 : decode cX12_way 36 = .ok (.iadd, 1) := by decide +kernel
theorem dX12_way_37 : decode cX12_way 37 = .ok (.istore_n 2, 1) := by decide +kernel
theorem dX12_way_38 : decode cX12_way 38 = .ok (.aload_n 0, 1) := by decide +kernel
theorem dX12_way_39 : decode cX12_way 39 = .ok (.invokevirtual 228, 3) := by decide +kernel
theorem dX12_way_42 : decode cX12_way 42 = .ok (.istore_n 3, 1) := by decide +kernel
theorem dX12_way_43 : decode cX12_way 43 = .ok (.iload_n 3, 1) := by decide +kernel
theorem dX12_way_44 : decode cX12_way 44 = .ok (.iconst (-1), 1) := by decide +kernel
theorem dX12_way_53 : decode cX12_way 53 = .ok (.aload_n 0, 1) := by decide +kernel
theorem dX12_way_54 : decode cX12_way 54 = .ok (.invokevirtual 139, 3) := by decide +kernel
theorem dX12_way_64 : decode cX12_way 64 = .ok (.aload_n 0, 1) := by decide +kernel
theorem dX12_way_65 : decode cX12_way 65 = .ok (.getfield 34, 3) := by decide +kernel
theorem dX12_way_68 : decode cX12_way 68 = .ok (.iload_n 2, 1) := by decide +kernel
theorem dX12_way_69 : decode cX12_way 69 = .ok (.iconst 1, 1) := by decide +kernel
theorem dX12_way_70 : decode cX12_way 70 = .ok (.iastore, 1) := by decide +kernel
theorem dX12_way_71 : decode cX12_way 71 = .ok (.aload_n 0, 1) := by decide +kernel
theorem dX12_way_72 : decode cX12_way 72 = .ok (.getfield 34, 3) := by decide +kernel
theorem dX12_way_75 : decode cX12_way 75 = .ok (.iload_n 2, 1) := by decide +kernel
theorem dX12_way_76 : decode cX12_way 76 = .ok (.iconst 1, 1) := by decide +kernel
theorem dX12_way_77 : decode cX12_way 77 = .ok (.iadd, 1) := by decide +kernel
theorem dX12_way_78 : decode cX12_way 78 = .ok (.iload_n 3, 1) := by decide +kernel
theorem dX12_way_79 : decode cX12_way 79 = .ok (.iastore, 1) := by decide +kernel
theorem dX12_way_80 : decode cX12_way 80 = .ok (.aload_n 0, 1) := by decide +kernel
theorem dX12_way_81 : decode cX12_way 81 = .ok (.getfield 34, 3) := by decide +kernel
theorem dX12_way_84 : decode cX12_way 84 = .ok (.iload_n 2, 1) := by decide +kernel
theorem dX12_way_85 : decode cX12_way 85 = .ok (.iconst 2, 1) := by decide +kernel
theorem dX12_way_86 : decode cX12_way 86 = .ok (.iadd, 1) := by decide +kernel
theorem dX12_way_87 : decode cX12_way 87 = .ok (.aload_n 0, 1) := by decide +kernel
theorem dX12_way_88 : decode cX12_way 88 = .ok (.ldc 231, 2) := by decide +kernel
theorem dX12_way_90 : decode cX12_way 90 = .ok (.invokevirtual 159, 3) := by decide +kernel
theorem dX12_way_107 : decode cX12_way 107 = .ok (.iastore, 1) := by decide +kernel
theorem dX12_way_108 : decode cX12_way 108 = .ok (.aload_n 0, 1) := by decide +kernel
theorem dX12_way_109 : decode cX12_way 109 = .ok (.getfield 34, 3) := by decide +kernel
theorem dX12_way_112 : decode cX12_way 112 = .ok (.iload_n 2, 1) := by decide +kernel
theorem dX12_way_113 : decode cX12_way 113 = .ok (.iconst 3, 1) := by decide +kernel
theorem dX12_way_114 : decode cX12_way 114 = .ok (.iadd, 1) := by decide +kernel
theorem dX12_way_115 : decode cX12_way 115 = .ok (.aload_n 0, 1) := by decide +kernel
theorem dX12_way_116 : decode cX12_way 116 = .ok (.ldc 233, 2) := by decide +kernel
theorem dX12_way_118 : decode cX12_way 118 = .ok (.invokevirtual 159, 3) := by decide +kernel
theorem dX12_way_134 : decode cX12_way 134 = .ok (.iastore, 1) := by decide +kernel
theorem dX12_way_135 : decode cX12_way 135 = .ok (.aload_n 0, 1) := by decide +kernel
theorem dX12_way_136 : decode cX12_way 136 = .ok (.getfield 34, 3) := by decide +kernel
theorem dX12_way_139 : decode cX12_way 139 = .ok (.iload_n 2, 1) := by decide +kernel
theorem dX12_way_140 : decode cX12_way 140 = .ok (.iconst 4, 1) := by decide +kernel
theorem dX12_way_141 : decode cX12_way 141 = .ok (.iadd, 1) := by decide +kernel
theorem dX12_way_142 : decode cX12_way 142 = .ok (.iconst 1, 1) := by decide +kernel
theorem dX12_way_143 : decode cX12_way 143 = .ok (.iastore, 1) := by decide +kernel
theorem dX12_way_144 : decode cX12_way 144 = .ok (.aload_n 0, 1) := by decide +kernel
theorem dX12_way_145 : decode cX12_way 145 = .ok (.ldc 235, 2) := by decide +kernel
theorem dX12_way_147 : decode cX12_way 147 = .ok (.invokevirtual 159, 3) := by decide +kernel
theorem dX12_way_196 : decode cX12_way 196 = .ok (.aload_n 0, 1) := by decide +kernel
theorem dX12_way_197 : decode cX12_way 197 = .ok (.getfield 34, 3) := by decide +kernel
theorem dX12_way_200 : decode cX12_way 200 = .ok (.iload_n 2, 1) := by decide +kernel
theorem dX12_way_201 : decode cX12_way 201 = .ok (.iconst 5, 1) := by decide +kernel
theorem dX12_way_202 : decode cX12_way 202 = .ok (.iadd, 1) := by decide +kernel
theorem dX12_way_203 : decode cX12_way 203 = .ok (.aload_n 0, 1) := by decide +kernel
theorem dX12_way_204 : decode cX12_way 204 = .ok (.ldc 237, 2) := by decide +kernel
theorem dX12_way_206 : decode cX12_way 206 = .ok (.invokevirtual 159, 3) := by decide +kernel
theorem dX12_way_217 : decode cX12_way 217 = .ok (.iastore, 1) := by decide +kernel
theorem dX12_way_218 : decode cX12_way 218 = .ok (.aload_n 0, 1) := by decide +kernel
theorem dX12_way_219 : decode cX12_way 219 = .ok (.getfield 34, 3) := by decide +kernel
theorem dX12_way_222 : decode cX12_way 222 = .ok (.iload_n 2, 1) := by decide +kernel
theorem dX12_way_223 : decode cX12_way 223 = .ok (.bipush 6, 2) := by decide +kernel
theorem dX12_way_225 : decode cX12_way 225 = .ok (.iadd, 1) := by decide +kernel
theorem dX12_way_226 : decode cX12_way 226 = .ok (.aload_n 0, 1) := by decide +kernel
theorem dX12_way_227 : decode cX12_way 227 = .ok (.ldc 239, 2) := by decide +kernel
theorem dX12_way_229 : decode cX12_way 229 = .ok (.invokevirtual 159, 3) := by decide +kernel
theorem dX12_way_240 : decode cX12_way 240 = .ok (.iastore, 1) := by decide +kernel
theorem dX12_way_241 : decode cX12_way 241 = .ok (.aload_n 0, 1) := by decide +kernel
theorem dX12_way_242 : decode cX12_way 242 = .ok (.invokevirtual 178, 3) := by decide +kernel
theorem dX12_way_245 : decode cX12_way 245 = .ok (.aload_n 0, 1) := by decide +kernel
theorem dX12_way_246 : decode cX12_way 246 = .ok (.invokevirtual 218, 3) := by decide +kernel
theorem dX12_way_249 : decode cX12_way 249 = .ok (.aload_n 0, 1) := by decide +kernel
theorem dX12_way_250 : decode cX12_way 250 = .ok (.invokevirtual 139, 3) := by decide +kernel
theorem dX12_way_253 : decode cX12_way 253 = .ok (.ifCond .ne 6, 3) := by decide +kernel
theorem dX12_way_259 : decode cX12_way 259 = .ok (.aload_n 0, 1) := by decide +kernel
theorem dX12_way_260 : decode cX12_way 260 = .ok (.iload_n 2, 1) := by decide +kernel
theorem dX12_way_261 : decode cX12_way 261 = .ok (.iload_n 2, 1) := by decide +kernel
theorem dX12_way_262 : decode cX12_way 262 = .ok (.bipush 7, 2) := by decide +kernel
theorem dX12_way_264 : decode cX12_way 264 = .ok (.iadd, 1) := by decide +kernel
theorem dX12_way_265 : decode cX12_way 265 = .ok (.invokevirtual 197, 3) := by decide +kernel
theorem dX12_way_268 : decode cX12_way 268 = .ok (.aload_n 0, 1) := by decide +kernel
theorem dX12_way_269 : decode cX12_way 269 = .ok (.iload_n 1, 1) := by decide +kernel
theorem dX12_way_270 : decode cX12_way 270 = .ok (.invokevirtual 241, 3) := by decide +kernel
theorem dX12_way_273 : decode cX12_way 273 = .ok (.ireturn, 1) := by decide +kernel
theorem dX12_way_256 : decode cX12_way 256 = .ok (.bipush (-4), 2) := by decide +kernel
theorem dX12_way_258 : decode cX12_way 258 = .ok (.ireturn, 1) := by decide +kernel
theorem dX12_way_232 : decode cX12_way 232 = .ok (.ifCond .eq 7, 3) := by decide +kernel
theorem dX12_way_239 : decode cX12_way 239 = .ok (.iconst 0, 1) := by decide +kernel
theorem dX12_way_235 : decode cX12_way 235 = .ok (.iconst 1, 1) := by decide +kernel
theorem dX12_way_236 : decode cX12_way 236 = .ok (.goto 4, 3) := by decide +kernel
theorem dX12_way_209 : decode cX12_way 209 = .ok (.ifCond .eq 7, 3) := by decide +kernel
theorem dX12_way_216 : decode cX12_way 216 = .ok (.iconst 0, 1) := by decide +kernel
theorem dX12_way_212 : decode cX12_way 212 = .ok (.iconst 1, 1) := by decide +kernel
theorem dX12_way_213 : decode cX12_way 213 = .ok (.goto 4, 3) := by decide +kernel
theorem dX12_way_150 : decode cX12_way 150 = .ok (.ifCond .eq 46, 3) := by decide +kernel
theorem dX12_way_153 : decode cX12_way 153 = .ok (.aload_n 0, 1) := by decide +kernel
theorem dX12_way_154 : decode cX12_way 154 = .ok (.invokevirtual 139, 3) := by decide +kernel
theorem dX12_way_157 : decode cX12_way 157 = .ok (.ifCond .eq 25, 3) := by decide +kernel
theorem dX12_way_182 : decode cX12_way 182 = .ok (.aload_n 0, 1) := by decide +kernel
theorem dX12_way_183 : decode cX12_way 183 = .ok (.getfield 34, 3) := by decide +kernel
theorem dX12_way_186 : decode cX12_way 186 = .ok (.iload_n 2, 1) := by decide +kernel
theorem dX12_way_187 : decode cX12_way 187 = .ok (.iconst 4, 1) := by decide +kernel
theorem dX12_way_188 : decode cX12_way 188 = .ok (.iadd, 1) := by decide +kernel
theorem dX12_way_189 : decode cX12_way 189 = .ok (.aload_n 0, 1) := by decide +kernel
theorem dX12_way_190 : decode cX12_way 190 = .ok (.iconst 1, 1) := by decide +kernel
theorem dX12_way_191 : decode cX12_way 191 = .ok (.iconst 5, 1) := by decide +kernel
theorem dX12_way_192 : decode cX12_way 192 = .ok (.invokevirtual 170, 3) := by decide +kernel
theorem dX12_way_195 : decode cX12_way 195 = .ok (.iastore, 1) := by decide +kernel
theorem dX12_way_160 : decode cX12_way 160 = .ok (.aload_n 0, 1) := by decide +kernel
theorem dX12_way_161 : decode cX12_way 161 = .ok (.getfield 120, 3) := by decide +kernel
theorem dX12_way_164 : decode cX12_way 164 = .ok (.iconst 2, 1) := by decide +kernel
theorem dX12_way_165 : decode cX12_way 165 = .ok (.if_icmp .ne 17, 3) := by decide +kernel
theorem dX12_way_168 : decode cX12_way 168 = .ok (.aload_n 0, 1) := by decide +kernel
theorem dX12_way_169 : decode cX12_way 169 = .ok (.getfield 131, 3) := by decide +kernel
theorem dX12_way_172 : decode cX12_way 172 = .ok (.iconst 2, 1) := by decide +kernel
theorem dX12_way_173 : decode cX12_way 173 = .ok (.irem, 1) := by decide +kernel
theorem dX12_way_174 : decode cX12_way 174 = .ok (.ifCond .ne 8, 3) := by decide +kernel
theorem dX12_way_177 : decode cX12_way 177 = .ok (.aload_n 0, 1) := by decide +kernel
theorem dX12_way_178 : decode cX12_way 178 = .ok (.iconst 2, 1) := by decide +kernel
theorem dX12_way_179 : decode cX12_way 179 = .ok (.invokevirtual 162, 3) := by decide +kernel
theorem dX12_way_121 : decode cX12_way 121 = .ok (.ifCond .eq 12, 3) := by decide +kernel
theorem dX12_way_133 : decode cX12_way 133 = .ok (.iconst 1, 1) := by decide +kernel
theorem dX12_way_124 : decode cX12_way 124 = .ok (.aload_n 0, 1) := by decide +kernel
theorem dX12_way_125 : decode cX12_way 125 = .ok (.iconst 1, 1) := by decide +kernel
theorem dX12_way_126 : decode cX12_way 126 = .ok (.iconst 5, 1) := by decide +kernel
theorem dX12_way_127 : decode cX12_way 127 = .ok (.invokevirtual 170, 3) := by decide +kernel
theorem dX12_way_130 : decode cX12_way 130 = .ok (.goto 4, 3) := by decide +kernel
theorem dX12_way_93 : decode cX12_way 93 = .ok (.ifCond .eq 13, 3) := by decide +kernel
theorem dX12_way_106 : decode cX12_way 106 = .ok (.iconst 1, 1) := by decide +kernel
theorem dX12_way_96 : decode cX12_way 96 = .ok (.aload_n 0, 1) := by decide +kernel
theorem dX12_way_97 : decode cX12_way 97 = .ok (.iconst 1, 1) := by decide +kernel
theorem dX12_way_98 : decode cX12_way 98 = .ok (.bipush 9, 2) := by decide +kernel
theorem dX12_way_100 : decode cX12_way 100 = .ok (.invokevirtual 170, 3) := by decide +kernel
theorem dX12_way_103 : decode cX12_way 103 = .ok (.goto 4, 3) := by decide +kernel
theorem dX12_way_57 : decode cX12_way 57 = .ok (.ifCond .eq 7, 3) := by decide +kernel
theorem dX12_way_60 : decode cX12_way 60 = .ok (.aload_n 0, 1) := by decide +kernel
theorem dX12_way_61 : decode cX12_way 61 = .ok (.invokevirtual 156, 3) := by decide +kernel
theorem dX12_way_45 : decode cX12_way 45 = .ok (.if_icmp .ne 8, 3) := by decide +kernel
theorem dX12_way_48 : decode cX12_way 48 = .ok (.aload_n 0, 1) := by decide +kernel
theorem dX12_way_49 : decode cX12_way 49 = .ok (.iconst 1, 1) := by decide +kernel
theorem dX12_way_50 : decode cX12_way 50 = .ok (.invokevirtual 162, 3) := by decide +kernel
theorem dX12_way_7 : decode cX12_way 7 = .ok (.bipush (-2), 2) := by decide +kernel
theorem dX12_way_9 : decode cX12_way 9 = .ok (.ireturn, 1) := by decide +kernel
