theorem dX12_keeps_0 : decode cX12_keeps 0 = .ok (.iload_n 1, 1) := by decide +kernel
theorem dX12_keeps_1 : decode cX12_keeps 1 = .ok (.istore_n 3, 1) := by decide +kernel
theorem dX12_keeps_2 : decode cX12_keeps 2 = .ok (.iload_n 3, 1) := by decide +kernel
theorem dX12_keeps_3 : decode cX12_keeps 3 = .ok (.iload_n 2, 1) := by decide +kernel
theorem dX12_keeps_4 : decode cX12_keeps 4 = .ok (.if_icmp .ge 21, 3) := by decide +kernel
theorem dX12_keeps_25 : decode cX12_keeps 25 = .ok (.return_, 1) := by decide +kernel
theorem dX12_keeps_7 : decode cX12_keeps 7 = .ok (.aload_n 0, 1) := by decide +kernel
theorem dX12_keeps_8 : decode cX12_keeps 8 = .ok (.getfield 13, 3) := by decide +kernel
theorem dX12_keeps_11 : decode cX12_keeps 11 = .ok (.iload_n 3, 1) := by decide +kernel
theorem dX12_keeps_12 : decode cX12_keeps 12 = .ok (.aload_n 0, 1) := by decide +kernel
theorem dX12_keeps_13 : decode cX12_keeps 13 = .ok (.getfield 34, 3) := by decide +kernel
theorem dX12_keeps_16 : decode cX12_keeps 16 = .ok (.iload_n 3, 1) := by decide +kernel
theorem dX12_keeps_17 : decode cX12_keeps 17 = .ok (.iaload, 1) := by decide +kernel
theorem dX12_keeps_18 : decode cX12_keeps 18 = .ok (.iastore, 1) := by decide +kernel
theorem dX12_keeps_19 : decode cX12_keeps 19 = .ok (.iinc 3 1, 3) := by decide +kernel
theorem dX12_keeps_22 : decode cX12_keeps 22 = .ok (.goto (-20), 3) := by decide +kernel
theorem dX12_clears_0 : decode cX12_clears 0 = .ok (.iload_n 1, 1) := by decide +kernel
theorem dX12_clears_1 : decode cX12_clears 1 = .ok (.istore_n 3, 1) := by decide +kernel
theorem dX12_clears_2 : decode cX12_clears 2 = .ok (.iload_n 3, 1) := by decide +kernel
theorem dX12_clears_3 : decode cX12_clears 3 = .ok (.iload_n 2, 1) := by decide +kernel
theorem dX12_clears_4 : decode cX12_clears 4 = .ok (.if_icmp .ge 16, 3) := by decide +kernel
theorem dX12_clears_20 : decode cX12_clears 20 = .ok (.return_, 1) := by decide +kernel
theorem dX12_clears_7 : decode cX12_clears 7 = .ok (.aload_n 0, 1) := by decide +kernel
theorem dX12_clears_8 : decode cX12_clears 8 = .ok (.getfield 34, 3) := by decide +kernel
theorem dX12_clears_11 : decode cX12_clears 11 = .ok (.iload_n 3, 1) := by decide +kernel
theorem dX12_clears_12 : decode cX12_clears 12 = .ok (.iconst 0, 1) := by decide +kernel
theorem dX12_clears_13 : decode cX12_clears 13 = .ok (.iastore, 1) := by decide +kernel
theorem dX12_clears_14 : decode cX12_clears 14 = .ok (.iinc 3 1, 3) := by decide +kernel
theorem dX12_clears_17 : decode cX12_clears 17 = .ok (.goto (-15), 3) := by decide +kernel
theorem dX12_begin_0 : decode cX12_begin 0 = .ok (.aload_n 0, 1) := by decide +kernel
theorem dX12_begin_1 : decode cX12_begin 1 = .ok (.aload_n 0, 1) := by decide +kernel
theorem dX12_begin_2 : decode cX12_begin 2 = .ok (.getfield 102, 3) := by decide +kernel
theorem dX12_begin_5 : decode cX12_begin 5 = .ok (.putfield 105, 3) := by decide +kernel
theorem dX12_begin_8 : decode cX12_begin 8 = .ok (.aload_n 0, 1) := by decide +kernel
theorem dX12_begin_9 : decode cX12_begin 9 = .ok (.iconst 0, 1) := by decide +kernel
theorem dX12_begin_10 : decode cX12_begin 10 = .ok (.putfield 102, 3) := by decide +kernel
theorem dX12_begin_13 : decode cX12_begin 13 = .ok (.aload_n 0, 1) := by decide +kernel
theorem dX12_begin_14 : decode cX12_begin 14 = .ok (.iconst 0, 1) := by decide +kernel
theorem dX12_begin_15 : decode cX12_begin 15 = .ok (.putfield 108, 3) := by decide +kernel
theorem dX12_begin_18 : decode cX12_begin 18 = .ok (.aload_n 0, 1) := by decide +kernel
theorem dX12_begin_19 : decode cX12_begin 19 = .ok (.iconst 0, 1) := by decide +kernel
theorem dX12_begin_20 : decode cX12_begin 20 = .ok (.putfield 111, 3) := by decide +kernel
theorem dX12_begin_23 : decode cX12_begin 23 = .ok (.aload_n 0, 1) := by decide +kernel
theorem dX12_begin_24 : decode cX12_begin 24 = .ok (.iconst (-1), 1) := by decide +kernel
theorem dX12_begin_25 : decode cX12_begin 25 = .ok (.putfield 31, 3) := by decide +kernel
theorem dX12_begin_28 : decode cX12_begin 28 = .ok (.return_, 1) := by decide +kernel
theorem dX12_see_0 : decode cX12_see 0 = .ok (.iload_n 1, 1) := by decide +kernel
theorem dX12_see_1 : decode cX12_see 1 = .ok (.aload_n 0, 1) := by decide +kernel
theorem dX12_see_2 : decode cX12_see 2 = .ok (.getfield 105, 3) := by decide +kernel
theorem dX12_see_5 : decode cX12_see 5 = .ok (.if_icmp .ge 16, 3) := by decide +kernel
theorem dX12_see_21 : decode cX12_see 21 = .ok (.iconst (-1), 1) := by decide +kernel
theorem dX12_see_22 : decode cX12_see 22 = .ok (.ireturn, 1) := by decide +kernel
theorem dX12_see_8 : decode cX12_see 8 = .ok (.aload_n 0, 1) := by decide +kernel
theorem dX12_see_9 : decode cX12_see 9 = .ok (.getfield 24, 3) := by decide +kernel
theorem dX12_see_12 : decode cX12_see 12 = .ok (.iload_n 1, 1) := by decide +kernel
theorem dX12_see_13 : decode cX12_see 13 = .ok (.baload, 1) := by decide +kernel
theorem dX12_see_14 : decode cX12_see 14 = .ok (.sipush 255, 3) := by decide +kernel
theorem dX12_see_17 : decode cX12_see 17 = .ok (.iand, 1) := by decide +kernel
theorem dX12_see_18 : decode cX12_see 18 = .ok (.goto 4, 3) := by decide +kernel
theorem dX12_in_0 : decode cX12_in 0 = .ok (.lload_n 0, 1) := by decide +kernel
theorem dX12_in_1 : decode cX12_in 1 = .ok (.lload_n 2, 1) := by decide +kernel
theorem dX12_in_2 : decode cX12_in 2 = .ok (.lcmp, 1) := by decide +kernel
theorem dX12_in_3 : decode cX12_in 3 = .ok (.ifCond .lt 14, 3) := by decide +kernel
theorem dX12_in_17 : decode cX12_in 17 = .ok (.iconst 0, 1) := by decide +kernel
theorem dX12_in_18 : decode cX12_in 18 = .ok (.ireturn, 1) := by decide +kernel
theorem dX12_in_6 : decode cX12_in 6 = .ok (.lload_n 0, 1) := by decide +kernel
theorem dX12_in_7 : decode cX12_in 7 = .ok (.lload 4, 2) := by decide +kernel
theorem dX12_in_9 : decode cX12_in 9 = .ok (.lcmp, 1) := by decide +kernel
theorem dX12_in_10 : decode cX12_in 10 = .ok (.ifCond .gt 7, 3) := by decide +kernel
theorem dX12_in_13 : decode cX12_in 13 = .ok (.iconst 1, 1) := by decide +kernel
theorem dX12_in_14 : decode cX12_in 14 = .ok (.goto 4, 3) := by decide +kernel
theorem dX12_advance_0 : decode cX12_advance 0 = .ok (.aload_n 0, 1) := by decide +kernel
theorem dX12_advance_1 : decode cX12_advance 1 = .ok (.aload_n 0, 1) := by decide +kernel
theorem dX12_advance_2 : decode cX12_advance 2 = .ok (.getfield 108, 3) := by decide +kernel
theorem dX12_advance_5 : decode cX12_advance 5 = .ok (.invokevirtual 114, 3) := by decide +kernel
theorem dX12_advance_8 : decode cX12_advance 8 = .ok (.bipush 32, 2) := by decide +kernel
theorem dX12_advance_10 : decode cX12_advance 10 = .ok (.if_icmp .eq 16, 3) := by decide +kernel
theorem dX12_advance_26 : decode cX12_advance 26 = .ok (.aload_n 0, 1) := by decide +kernel
theorem dX12_advance_27 : decode cX12_advance 27 = .ok (.dup, 1) := by decide +kernel
theorem dX12_advance_28 : decode cX12_advance 28 = .ok (.getfield 108, 3) := by decide +kernel
theorem dX12_advance_31 : decode cX12_advance 31 = .ok (.iconst 1, 1) := by decide +kernel
theorem dX12_advance_32 : decode cX12_advance 32 = .ok (.iadd, 1) := by decide +kernel
theorem dX12_advance_33 : decode cX12_advance 33 = .ok (.putfield 108, 3) := by decide +kernel
theorem dX12_advance_36 : decode cX12_advance 36 = .ok (.goto (-36), 3) := by decide +kernel
theorem dX12_advance_13 : decode cX12_advance 13 = .ok (.aload_n 0, 1) := by decide +kernel
theorem dX12_advance_14 : decode cX12_advance 14 = .ok (.aload_n 0, 1) := by decide +kernel
theorem dX12_advance_15 : decode cX12_advance 15 = .ok (.getfield 108, 3) := by decide +kernel
theorem dX12_advance_18 : decode cX12_advance 18 = .ok (.invokevirtual 114, 3) := by decide +kernel
theorem dX12_advance_21 : decode cX12_advance 21 = .ok (.bipush 10, 2) := by decide +kernel
theorem dX12_advance_23 : decode cX12_advance 23 = .ok (.if_icmp .ne 16, 3) := by decide +kernel
theorem dX12_advance_39 : decode cX12_advance 39 = .ok (.aload_n 0, 1) := by decide +kernel
theorem dX12_advance_40 : decode cX12_advance 40 = .ok (.aload_n 0, 1) := by decide +kernel
theorem dX12_advance_41 : decode cX12_advance 41 = .ok (.getfield 108, 3) := by decide +kernel
theorem dX12_advance_44 : decode cX12_advance 44 = .ok (.putfield 117, 3) := by decide +kernel
theorem dX12_advance_47 : decode cX12_advance 47 = .ok (.aload_n 0, 1) := by decide +kernel
theorem dX12_advance_48 : decode cX12_advance 48 = .ok (.aload_n 0, 1) := by decide +kernel
theorem dX12_advance_49 : decode cX12_advance 49 = .ok (.getfield 108, 3) := by decide +kernel
theorem dX12_advance_52 : decode cX12_advance 52 = .ok (.invokevirtual 114, 3) := by decide +kernel
theorem dX12_advance_55 : decode cX12_advance 55 = .ok (.istore_n 1, 1) := by decide +kernel
theorem dX12_advance_56 : decode cX12_advance 56 = .ok (.iload_n 1, 1) := by decide +kernel
theorem dX12_advance_57 : decode cX12_advance 57 = .ok (.iconst (-1), 1) := by decide +kernel
theorem dX12_advance_58 : decode cX12_advance 58 = .ok (.if_icmp .ne 11, 3) := by decide +kernel
theorem dX12_advance_69 : decode cX12_advance 69 = .ok (.iload_n 1, 1) := by decide +kernel
theorem dX12_advance_70 : decode cX12_advance 70 = .ok (.i2l, 1) := by decide +kernel
theorem dX12_advance_71 : decode cX12_advance 71 = .ok (.ldc2_w 123, 3) := by decide +kernel
theorem dX12_advance_74 : decode cX12_advance 74 = .ok (.ldc2_w 125, 3) := by decide +kernel
theorem dX12_advance_77 : decode cX12_advance 77 = .ok (.invokestatic 79, 3) := by decide +kernel
theorem dX12_advance_80 : decode cX12_advance 80 = .ok (.ifCond .eq 45, 3) := by decide +kernel
theorem dX12_advance_125 : decode cX12_advance 125 = .ok (.iload_n 1, 1) := by decide +kernel
theorem dX12_advance_126 : decode cX12_advance 126 = .ok (.i2l, 1) := by decide +kernel
theorem dX12_advance_127 : decode cX12_advance 127 = .ok (.ldc2_w 127, 3) := by decide +kernel
theorem dX12_advance_130 : decode cX12_advance 130 = .ok (.ldc2_w 129, 3) := by decide +kernel
theorem dX12_advance_133 : decode cX12_advance 133 = .ok (.invokestatic 79, 3) := by decide +kernel
theorem dX12_advance_136 : decode cX12_advance 136 = .ok (.ifCond .eq 79, 3) := by decide +kernel
theorem dX12_advance_215 : decode cX12_advance 215 = .ok (.aload_n 0, 1) := by decide +kernel
theorem dX12_advance_216 : decode cX12_advance 216 = .ok (.iload_n 1, 1) := by decide +kernel
theorem dX12_advance_217 : decode cX12_advance 217 = .ok (.bipush 59, 2) := by decide +kernel
theorem dX12_advance_219 : decode cX12_advance 219 = .ok (.if_icmp .ne 7, 3) := by decide +kernel
theorem dX12_advance_226 : decode cX12_advance 226 = .ok (.iconst 4, 1) := by decide +kernel
theorem dX12_advance_227 : decode cX12_advance 227 = .ok (.putfield 120, 3) := by decide +kernel
theorem dX12_advance_230 : decode cX12_advance 230 = .ok (.aload_n 0, 1) := by decide +kernel
theorem dX12_advance_231 : decode cX12_advance 231 = .ok (.dup, 1) := by decide +kernel
theorem dX12_advance_232 : decode cX12_advance 232 = .ok (.getfield 108, 3) := by decide +kernel
theorem dX12_advance_235 : decode cX12_advance 235 = .ok (.iconst 1, 1) := by decide +kernel
theorem dX12_advance_236 : decode cX12_advance 236 = .ok (.iadd, 1) := by decide +kernel
theorem dX12_advance_237 : decode cX12_advance 237 = .ok (.putfield 108, 3) := by decide +kernel
theorem dX12_advance_240 : decode cX12_advance 240 = .ok (.return_, 1) := by decide +kernel
theorem dX12_advance_222 : decode cX12_advance 222 = .ok (.iconst 3, 1) := by decide +kernel
theorem dX12_advance_223 : decode cX12_advance 223 = .ok (.goto 4, 3) := by decide +kernel
theorem dX12_advance_139 : decode cX12_advance 139 = .ok (.aload_n 0, 1) := by decide +kernel
theorem dX12_advance_140 : decode cX12_advance 140 = .ok (.iconst 0, 1) := by decide +kernel
theorem dX12_advance_141 : decode cX12_advance 141 = .ok (.putfield 131, 3) := by decide +kernel
theorem dX12_advance_144 : decode cX12_advance 144 = .ok (.aload_n 0, 1) := by decide +kernel
theorem dX12_advance_145 : decode cX12_advance 145 = .ok (.aload_n 0, 1) := by decide +kernel
theorem dX12_advance_146 : decode cX12_advance 146 = .ok (.getfield 108, 3) := by decide +kernel
theorem dX12_advance_149 : decode cX12_advance 149 = .ok (.invokevirtual 114, 3) := by decide +kernel
theorem dX12_advance_152 : decode cX12_advance 152 = .ok (.i2l, 1) := by decide +kernel
theorem dX12_advance_153 : decode cX12_advance 153 = .ok (.ldc2_w 127, 3) := by decide +kernel
theorem dX12_advance_156 : decode cX12_advance 156 = .ok (.ldc2_w 129, 3) := by decide +kernel
theorem dX12_advance_159 : decode cX12_advance 159 = .ok (.invokestatic 79, 3) := by decide +kernel
theorem dX12_advance_162 : decode cX12_advance 162 = .ok (.ifCond .eq 45, 3) := by decide +kernel
theorem dX12_advance_165 : decode cX12_advance 165 = .ok (.aload_n 0, 1) := by decide +kernel
theorem dX12_advance_166 : decode cX12_advance 166 = .ok (.sipush 9999, 3) := by decide +kernel
theorem dX12_advance_169 : decode cX12_advance 169 = .ok (.bipush 10, 2) := by decide +kernel
theorem dX12_advance_171 : decode cX12_advance 171 = .ok (.aload_n 0, 1) := by decide +kernel
theorem dX12_advance_172 : decode cX12_advance 172 = .ok (.getfield 131, 3) := by decide +kernel
theorem dX12_advance_175 : decode cX12_advance 175 = .ok (.imul, 1) := by decide +kernel
theorem dX12_advance_176 : decode cX12_advance 176 = .ok (.aload_n 0, 1) := by decide +kernel
theorem dX12_advance_177 : decode cX12_advance 177 = .ok (.aload_n 0, 1) := by decide +kernel
theorem dX12_advance_178 : decode cX12_advance 178 = .ok (.getfield 108, 3) := by decide +kernel
theorem dX12_advance_181 : decode cX12_advance 181 = .ok (.invokevirtual 114, 3) := by decide +kernel
theorem dX12_advance_184 : decode cX12_advance 184 = .ok (.iadd, 1) := by decide +kernel
theorem dX12_advance_185 : decode cX12_advance 185 = .ok (.bipush 48, 2) := by decide +kernel
theorem dX12_advance_187 : decode cX12_advance 187 = .ok (.isub, 1) := by decide +kernel
theorem dX12_advance_188 : decode cX12_advance 188 = .ok (.invokestatic 134, 3) := by decide +kernel
theorem dX12_advance_191 : decode cX12_advance 191 = .ok (.putfield 131, 3) := by decide +kernel
theorem dX12_advance_194 : decode cX12_advance 194 = .ok (.aload_n 0, 1) := by decide +kernel
theorem dX12_advance_195 : decode cX12_advance 195 = .ok (.dup, 1) := by decide +kernel
theorem dX12_advance_196 : decode cX12_advance 196 = .ok (.getfield 108, 3) := by decide +kernel
theorem dX12_advance_199 : decode cX12_advance 199 = .ok (.iconst 1, 1) := by decide +kernel
theorem dX12_advance_200 : decode cX12_advance 200 = .ok (.iadd, 1) := by decide +kernel
theorem dX12_advance_201 : decode cX12_advance 201 = .ok (.putfield 108, 3) := by decide +kernel
theorem dX12_advance_204 : decode cX12_advance 204 = .ok (.goto (-60), 3) := by decide +kernel
theorem dX12_advance_207 : decode cX12_advance 207 = .ok (.aload_n 0, 1) := by decide +kernel
theorem dX12_advance_208 : decode cX12_advance 208 = .ok (.iconst 2, 1) := by decide +kernel
theorem dX12_advance_209 : decode cX12_advance 209 = .ok (.putfield 120, 3) := by decide +kernel
theorem dX12_advance_212 : decode cX12_advance 212 = .ok (.goto 28, 3) := by decide +kernel
theorem dX12_advance_83 : decode cX12_advance 83 = .ok (.aload_n 0, 1) := by decide +kernel
theorem dX12_advance_84 : decode cX12_advance 84 = .ok (.aload_n 0, 1) := by decide +kernel
theorem dX12_advance_85 : decode cX12_advance 85 = .ok (.getfield 108, 3) := by decide +kernel
theorem dX12_advance_88 : decode cX12_advance 88 = .ok (.invokevirtual 114, 3) := by decide +kernel
theorem dX12_advance_91 : decode cX12_advance 91 = .ok (.i2l, 1) := by decide +kernel
theorem dX12_advance_92 : decode cX12_advance 92 = .ok (.ldc2_w 123, 3) := by decide +kernel
theorem dX12_advance_95 : decode cX12_advance 95 = .ok (.ldc2_w 125, 3) := by decide +kernel
theorem dX12_advance_98 : decode cX12_advance 98 = .ok (.invokestatic 79, 3) := by decide +kernel
theorem dX12_advance_101 : decode cX12_advance 101 = .ok (.ifCond .eq 16, 3) := by decide +kernel
theorem dX12_advance_104 : decode cX12_advance 104 = .ok (.aload_n 0, 1) := by decide +kernel
theorem dX12_advance_105 : decode cX12_advance 105 = .ok (.dup, 1) := by decide +kernel
theorem dX12_advance_106 : decode cX12_advance 106 = .ok (.getfield 108, 3) := by decide +kernel
theorem dX12_advance_109 : decode cX12_advance 109 = .ok (.iconst 1, 1) := by decide +kernel
theorem dX12_advance_110 : decode cX12_advance 110 = .ok (.iadd, 1) := by decide +kernel
theorem dX12_advance_111 : decode cX12_advance 111 = .ok (.putfield 108, 3) := by decide +kernel
theorem dX12_advance_114 : decode cX12_advance 114 = .ok (.goto (-31), 3) := by decide +kernel
theorem dX12_advance_117 : decode cX12_advance 117 = .ok (.aload_n 0, 1) := by decide +kernel
theorem dX12_advance_118 : decode cX12_advance 118 = .ok (.iconst 1, 1) := by decide +kernel
theorem dX12_advance_119 : decode cX12_advance 119 = .ok (.putfield 120, 3) := by decide +kernel
theorem dX12_advance_122 : decode cX12_advance 122 = .ok (.goto 118, 3) := by decide +kernel
theorem dX12_advance_61 : decode cX12_advance 61 = .ok (.aload_n 0, 1) := by decide +kernel
theorem dX12_advance_62 : decode cX12_advance 62 = .ok (.iconst 0, 1) := by decide +kernel
theorem dX12_advance_63 : decode cX12_advance 63 = .ok (.putfield 120, 3) := by decide +kernel
theorem dX12_advance_66 : decode cX12_advance 66 = .ok (.goto 174, 3) := by decide +kernel
theorem dX12_good_0 : decode cX12_good 0 = .ok (.aload_n 0, 1) := by decide +kernel
theorem dX12_good_1 : decode cX12_good 1 = .ok (.getfield 111, 3) := by decide +kernel
theorem dX12_good_4 : decode cX12_good 4 = .ok (.ifCond .ne 7, 3) := by decide +kernel
theorem dX12_good_11 : decode cX12_good 11 = .ok (.iconst 0, 1) := by decide +kernel
theorem dX12_good_12 : decode cX12_good 12 = .ok (.ireturn, 1) := by decide +kernel
theorem dX12_good_7 : decode cX12_good 7 = .ok (.iconst 1, 1) := by decide +kernel
theorem dX12_good_8 : decode cX12_good 8 = .ok (.goto 4, 3) := by decide +kernel
theorem dJ0_coder_7d493_0 : decode cJ0_coder_7d493 0 = .ok (.getstatic 38, 3) := by decide +kernel
theorem dJ0_coder_7d493_3 : decode cJ0_coder_7d493 3 = .ok (.ifCond .eq 10, 3) := by decide +kernel
theorem dJ0_coder_7d493_6 : decode cJ0_coder_7d493 6 = .ok (.aload_n 0, 1) := by decide +kernel
theorem dJ0_coder_7d493_7 : decode cJ0_coder_7d493 7 = .ok (.getfield 15, 3) := by decide +kernel
theorem dJ0_coder_7d493_10 : decode cJ0_coder_7d493 10 = .ok (.goto 4, 3) := by decide +kernel
theorem dJ0_coder_7d493_14 : decode cJ0_coder_7d493 14 = .ok (.ireturn, 1) := by decide +kernel
theorem dJ0_length_8abf5_0 : decode cJ0_length_8abf5 0 = .ok (.aload_n 0, 1) := by decide +kernel
theorem dJ0_length_8abf5_1 : decode cJ0_length_8abf5 1 = .ok (.getfield 9, 3) := by decide +kernel
theorem dJ0_length_8abf5_4 : decode cJ0_length_8abf5 4 = .ok (.arraylength, 1) := by decide +kernel
theorem dJ0_length_8abf5_5 : decode cJ0_length_8abf5 5 = .ok (.aload_n 0, 1) := by decide +kernel
theorem dJ0_length_8abf5_6 : decode cJ0_length_8abf5 6 = .ok (.invokevirtual 335, 3) := by decide +kernel
theorem dJ0_length_8abf5_9 : decode cJ0_length_8abf5 9 = .ok (.ishr, 1) := by decide +kernel
theorem dJ0_length_8abf5_10 : decode cJ0_length_8abf5 10 = .ok (.ireturn, 1) := by decide +kernel
theorem dJ0_isLatin1_aae02_0 : decode cJ0_isLatin1_aae02 0 = .ok (.getstatic 38, 3) := by decide +kernel
theorem dJ0_isLatin1_aae02_3 : decode cJ0_isLatin1_aae02 3 = .ok (.ifCond .eq 14, 3) := by decide +kernel
theorem dJ0_isLatin1_aae02_6 : decode cJ0_isLatin1_aae02 6 = .ok (.aload_n 0, 1) := by decide +kernel
theorem dJ0_isLatin1_aae02_7 : decode cJ0_isLatin1_aae02 7 = .ok (.getfield 15, 3) := by decide +kernel
theorem dJ0_isLatin1_aae02_10 : decode cJ0_isLatin1_aae02 10 = .ok (.ifCond .ne 7, 3) := by decide +kernel
theorem dJ0_isLatin1_aae02_13 : decode cJ0_isLatin1_aae02 13 = .ok (.iconst 1, 1) := by decide +kernel
theorem dJ0_isLatin1_aae02_14 : decode cJ0_isLatin1_aae02 14 = .ok (.goto 4, 3) := by decide +kernel
theorem dJ0_isLatin1_aae02_18 : decode cJ0_isLatin1_aae02 18 = .ok (.ireturn, 1) := by decide +kernel
theorem dJ3_checkIndex_8e157_0 : decode cJ3_checkIndex_8e157 0 = .ok (.iload_n 0, 1) := by decide +kernel
theorem dJ3_checkIndex_8e157_1 : decode cJ3_checkIndex_8e157 1 = .ok (.ifCond .lt 8, 3) := by decide +kernel
theorem dJ3_checkIndex_8e157_4 : decode cJ3_checkIndex_8e157 4 = .ok (.iload_n 0, 1) := by decide +kernel
theorem dJ3_checkIndex_8e157_5 : decode cJ3_checkIndex_8e157 5 = .ok (.iload_n 1, 1) := by decide +kernel
theorem dJ3_checkIndex_8e157_6 : decode cJ3_checkIndex_8e157 6 = .ok (.if_icmp .lt 10, 3) := by decide +kernel
theorem dJ3_checkIndex_8e157_16 : decode cJ3_checkIndex_8e157 16 = .ok (.iload_n 0, 1) := by decide +kernel
theorem dJ3_checkIndex_8e157_17 : decode cJ3_checkIndex_8e157 17 = .ok (.ireturn, 1) := by decide +kernel
theorem dJ0_checkIndex_df160_0 : decode cJ0_checkIndex_df160 0 = .ok (.iload_n 0, 1) := by decide +kernel
theorem dJ0_checkIndex_df160_1 : decode cJ0_checkIndex_df160 1 = .ok (.iload_n 1, 1) := by decide +kernel
theorem dJ0_checkIndex_df160_2 : decode cJ0_checkIndex_df160 2 = .ok (.getstatic 1053, 3) := by decide +kernel
theorem dJ0_checkIndex_df160_5 : decode cJ0_checkIndex_df160 5 = .ok (.invokestatic 1059, 3) := by decide +kernel
theorem dJ0_checkIndex_df160_8 : decode cJ0_checkIndex_df160 8 = .ok (.pop, 1) := by decide +kernel
theorem dJ0_checkIndex_df160_9 : decode cJ0_checkIndex_df160 9 = .ok (.return_, 1) := by decide +kernel
theorem dJ1_charAt_3b067_0 : decode cJ1_charAt_3b067 0 = .ok (.iload_n 1, 1) := by decide +kernel
theorem dJ1_charAt_3b067_1 : decode cJ1_charAt_3b067 1 = .ok (.aload_n 0, 1) := by decide +kernel
theorem dJ1_charAt_3b067_2 : decode cJ1_charAt_3b067 2 = .ok (.arraylength, 1) := by decide +kernel
theorem dJ1_charAt_3b067_3 : decode cJ1_charAt_3b067 3 = .ok (.invokestatic 9, 3) := by decide +kernel
theorem dJ1_charAt_3b067_6 : decode cJ1_charAt_3b067 6 = .ok (.aload_n 0, 1) := by decide +kernel
theorem dJ1_charAt_3b067_7 : decode cJ1_charAt_3b067 7 = .ok (.iload_n 1, 1) := by decide +kernel
theorem dJ1_charAt_3b067_8 : decode cJ1_charAt_3b067 8 = .ok (.baload, 1) := by decide +kernel
theorem dJ1_charAt_3b067_9 : decode cJ1_charAt_3b067 9 = .ok (.sipush 255, 3) := by decide +kernel
theorem dJ1_charAt_3b067_12 : decode cJ1_charAt_3b067 12 = .ok (.iand, 1) := by decide +kernel
theorem dJ1_charAt_3b067_13 : decode cJ1_charAt_3b067 13 = .ok (.i2c, 1) := by decide +kernel
theorem dJ1_charAt_3b067_14 : decode cJ1_charAt_3b067 14 = .ok (.ireturn, 1) := by decide +kernel
theorem dJ0_charAt_5068e_0 : decode cJ0_charAt_5068e 0 = .ok (.aload_n 0, 1) := by decide +kernel
theorem dJ0_charAt_5068e_1 : decode cJ0_charAt_5068e 1 = .ok (.invokevirtual 492, 3) := by decide +kernel
theorem dJ0_charAt_5068e_4 : decode cJ0_charAt_5068e 4 = .ok (.ifCond .eq 12, 3) := by decide +kernel
theorem dJ0_charAt_5068e_7 : decode cJ0_charAt_5068e 7 = .ok (.aload_n 0, 1) := by decide +kernel
theorem dJ0_charAt_5068e_8 : decode cJ0_charAt_5068e 8 = .ok (.getfield 9, 3) := by decide +kernel
theorem dJ0_charAt_5068e_11 : decode cJ0_charAt_5068e 11 = .ok (.iload_n 1, 1) := by decide +kernel
theorem dJ0_charAt_5068e_12 : decode cJ0_charAt_5068e 12 = .ok (.invokestatic 495, 3) := by decide +kernel
theorem dJ0_charAt_5068e_15 : decode cJ0_charAt_5068e 15 = .ok (.ireturn, 1) := by decide +kernel
theorem dX12_is_0 : decode cX12_is 0 = .ok (.aload_n 0, 1) := by decide +kernel
theorem dX12_is_1 : decode cX12_is 1 = .ok (.invokevirtual 139, 3) := by decide +kernel
theorem dX12_is_4 : decode cX12_is 4 = .ok (.ifCond .eq 31, 3) := by decide +kernel
theorem dX12_is_35 : decode cX12_is 35 = .ok (.iconst 0, 1) := by decide +kernel
theorem dX12_is_36 : decode cX12_is 36 = .ok (.istore_n 2, 1) := by decide +kernel
theorem dX12_is_37 : decode cX12_is 37 = .ok (.iconst 0, 1) := by decide +kernel
theorem dX12_is_38 : decode cX12_is 38 = .ok (.istore_n 3, 1) := by decide +kernel
theorem dX12_is_39 : decode cX12_is 39 = .ok (.iload_n 3, 1) := by decide +kernel
theorem dX12_is_40 : decode cX12_is 40 = .ok (.aload_n 1, 1) := by decide +kernel
theorem dX12_is_41 : decode cX12_is 41 = .ok (.invokevirtual 143, 3) := by decide +kernel
theorem dX12_is_44 : decode cX12_is 44 = .ok (.if_icmp .ge 38, 3) := by decide +kernel
theorem dX12_is_82 : decode cX12_is 82 = .ok (.iload_n 2, 1) := by decide +kernel
theorem dX12_is_83 : decode cX12_is 83 = .ok (.ireturn, 1) := by decide +kernel
theorem dX12_is_47 : decode cX12_is 47 = .ok (.iload_n 2, 1) := by decide +kernel
theorem dX12_is_48 : decode cX12_is 48 = .ok (.ifCond .eq 34, 3) := by decide +kernel
theorem dX12_is_51 : decode cX12_is 51 = .ok (.aload_n 0, 1) := by decide +kernel
theorem dX12_is_52 : decode cX12_is 52 = .ok (.getfield 24, 3) := by decide +kernel
theorem dX12_is_55 : decode cX12_is 55 = .ok (.aload_n 0, 1) := by decide +kernel
theorem dX12_is_56 : decode cX12_is 56 = .ok (.getfield 117, 3) := by decide +kernel
theorem dX12_is_59 : decode cX12_is 59 = .ok (.iload_n 3, 1) := by decide +kernel
theorem dX12_is_60 : decode cX12_is 60 = .ok (.iadd, 1) := by decide +kernel
theorem dX12_is_61 : decode cX12_is 61 = .ok (.baload, 1) := by decide +kernel
theorem dX12_is_62 : decode cX12_is 62 = .ok (.aload_n 1, 1) := by decide +kernel
theorem dX12_is_63 : decode cX12_is 63 = .ok (.iload_n 3, 1) := by decide +kernel
theorem dX12_is_64 : decode cX12_is 64 = .ok (.invokevirtual 148, 3) := by decide +kernel
theorem dX12_is_67 : decode cX12_is 67 = .ok (.if_icmp .ne 7, 3) := by decide +kernel
theorem dX12_is_74 : decode cX12_is 74 = .ok (.iconst 0, 1) := by decide +kernel
theorem dX12_is_75 : decode cX12_is 75 = .ok (.istore_n 2, 1) := by decide +kernel
theorem dX12_is_76 : decode cX12_is 76 = .ok (.iinc 3 1, 3) := by decide +kernel
theorem dX12_is_79 : decode cX12_is 79 = .ok (.goto (-40), 3) := by decide +kernel
theorem dX12_is_70 : decode cX12_is 70 = .ok (.iconst 1, 1) := by decide +kernel
theorem dX12_is_71 : decode cX12_is 71 = .ok (.goto 4, 3) := by decide +kernel
theorem dX12_is_7 : decode cX12_is 7 = .ok (.aload_n 0, 1) := by decide +kernel
theorem dX12_is_8 : decode cX12_is 8 = .ok (.getfield 120, 3) := by decide +kernel
theorem dX12_is_11 : decode cX12_is 11 = .ok (.iconst 1, 1) := by decide +kernel
theorem dX12_is_12 : decode cX12_is 12 = .ok (.if_icmp .ne 23, 3) := by decide +kernel
theorem dX12_is_15 : decode cX12_is 15 = .ok (.aload_n 0, 1) := by decide +kernel
theorem dX12_is_16 : decode cX12_is 16 = .ok (.getfield 108, 3) := by decide +kernel
theorem dX12_is_19 : decode cX12_is 19 = .ok (.aload_n 0, 1) := by decide +kernel
theorem dX12_is_20 : decode cX12_is 20 = .ok (.getfield 117, 3) := by decide +kernel
theorem dX12_is_23 : decode cX12_is 23 = .ok (.isub, 1) := by decide +kernel
theorem dX12_is_24 : decode cX12_is 24 = .ok (.aload_n 1, 1) := by decide +kernel
theorem dX12_is_25 : decode cX12_is 25 = .ok (.invokevirtual 143, 3) := by decide +kernel
theorem dX12_is_28 : decode cX12_is 28 = .ok (.if_icmp .ne 7, 3) := by decide +kernel
theorem dX12_is_31 : decode cX12_is 31 = .ok (.iconst 1, 1) := by decide +kernel
theorem dX12_is_32 : decode cX12_is 32 = .ok (.goto 4, 3) := by decide +kernel
theorem dX12_takes_0 : decode cX12_takes 0 = .ok (.aload_n 0, 1) := by decide +kernel
theorem dX12_takes_1 : decode cX12_takes 1 = .ok (.aload_n 1, 1) := by decide +kernel
theorem dX12_takes_2 : decode cX12_takes 2 = .ok (.invokevirtual 152, 3) := by decide +kernel
theorem dX12_takes_5 : decode cX12_takes 5 = .ok (.istore_n 2, 1) := by decide +kernel
theorem dX12_takes_6 : decode cX12_takes 6 = .ok (.iload_n 2, 1) := by decide +kernel
theorem dX12_takes_7 : decode cX12_takes 7 = .ok (.ifCond .eq 7, 3) := by decide +kernel
theorem dX12_takes_14 : decode cX12_takes 14 = .ok (.iload_n 2, 1) := by decide +kernel
theorem dX12_takes_15 : decode cX12_takes 15 = .ok (.ireturn, 1) := by decide +kernel
theorem dX12_takes_10 : decode cX12_takes 10 = .ok (.aload_n 0, 1) := by decide +kernel
theorem dX12_takes_11 : decode cX12_takes 11 = .ok (.invokevirtual 156, 3) := by decide +kernel
theorem dX12_errs_0 : decode cX12_errs 0 = .ok (.aload_n 0, 1) := by decide +kernel
theorem dX12_errs_1 : decode cX12_errs 1 = .ok (.invokevirtual 139, 3) := by decide +kernel
theorem dX12_errs_4 : decode cX12_errs 4 = .ok (.ifCond .ne 4, 3) := by decide +kernel
theorem dX12_errs_8 : decode cX12_errs 8 = .ok (.aload_n 0, 1) := by decide +kernel
theorem dX12_errs_9 : decode cX12_errs 9 = .ok (.iload_n 1, 1) := by decide +kernel
theorem dX12_errs_10 : decode cX12_errs 10 = .ok (.putfield 111, 3) := by decide +kernel
theorem dX12_errs_13 : decode cX12_errs 13 = .ok (.aload_n 0, 1) := by decide +kernel
theorem dX12_errs_14 : decode cX12_errs 14 = .ok (.aload_n 0, 1) := by decide +kernel
theorem dX12_errs_15 : decode cX12_errs 15 = .ok (.getfield 117, 3) := by decide +kernel
theorem dX12_errs_18 : decode cX12_errs 18 = .ok (.putfield 31, 3) := by decide +kernel
theorem dX12_errs_21 : decode cX12_errs 21 = .ok (.return_, 1) := by decide +kernel
theorem dX12_errs_7 : decode cX12_errs 7 = .ok (.return_, 1) := by decide +kernel
theorem dX12_ends_0 : decode cX12_ends 0 = .ok (.aload_n 0, 1) := by decide +kernel
theorem dX12_ends_1 : decode cX12_ends 1 = .ok (.invokevirtual 139, 3) := by decide +kernel
theorem dX12_ends_4 : decode cX12_ends 4 = .ok (.ifCond .eq 16, 3) := by decide +kernel
theorem dX12_ends_20 : decode cX12_ends 20 = .ok (.aload_n 0, 1) := by decide +kernel
theorem dX12_ends_21 : decode cX12_ends 21 = .ok (.invokevirtual 139, 3) := by decide +kernel
theorem dX12_ends_24 : decode cX12_ends 24 = .ok (.ifCond .eq 7, 3) := by decide +kernel
theorem dX12_ends_31 : decode cX12_ends 31 = .ok (.return_, 1) := by decide +kernel
theorem dX12_ends_27 : decode cX12_ends 27 = .ok (.aload_n 0, 1) := by decide +kernel
theorem dX12_ends_28 : decode cX12_ends 28 = .ok (.invokevirtual 156, 3) := by decide +kernel
theorem dX12_ends_7 : decode cX12_ends 7 = .ok (.aload_n 0, 1) := by decide +kernel
theorem dX12_ends_8 : decode cX12_ends 8 = .ok (.getfield 120, 3) := by decide +kernel
theorem dX12_ends_11 : decode cX12_ends 11 = .ok (.iconst 3, 1) := by decide +kernel
theorem dX12_ends_12 : decode cX12_ends 12 = .ok (.if_icmp .eq 8, 3) := by decide +kernel
theorem dX12_ends_15 : decode cX12_ends 15 = .ok (.aload_n 0, 1) := by decide +kernel
theorem dX12_ends_16 : decode cX12_ends 16 = .ok (.iconst 1, 1) := by decide +kernel
theorem dX12_ends_17 : decode cX12_ends 17 = .ok (.invokevirtual 162, 3) := by decide +kernel
theorem dX12_number_0 : decode cX12_number 0 = .ok (.aload_n 0, 1) := by decide +kernel
theorem dX12_number_1 : decode cX12_number 1 = .ok (.invokevirtual 139, 3) := by decide +kernel
theorem dX12_number_4 : decode cX12_number 4 = .ok (.ifCond .eq 16, 3) := by decide +kernel
theorem dX12_number_20 : decode cX12_number 20 = .ok (.aload_n 0, 1) := by decide +kernel
theorem dX12_number_21 : decode cX12_number 21 = .ok (.invokevirtual 139, 3) := by decide +kernel
theorem dX12_number_24 : decode cX12_number 24 = .ok (.ifCond .eq 23, 3) := by decide +kernel
theorem dX12_number_47 : decode cX12_number 47 = .ok (.aload_n 0, 1) := by decide +kernel
theorem dX12_number_48 : decode cX12_number 48 = .ok (.invokevirtual 139, 3) := by decide +kernel
theorem dX12_number_51 : decode cX12_number 51 = .ok (.ifCond .ne 5, 3) := by decide +kernel
theorem dX12_number_56 : decode cX12_number 56 = .ok (.aload_n 0, 1) := by decide +kernel
theorem dX12_number_57 : decode cX12_number 57 = .ok (.getfield 131, 3) := by decide +kernel
theorem dX12_number_60 : decode cX12_number 60 = .ok (.istore_n 3, 1) := by decide +kernel
theorem dX12_number_61 : decode cX12_number 61 = .ok (.aload_n 0, 1) := by decide +kernel
theorem dX12_number_62 : decode cX12_number 62 = .ok (.invokevirtual 156, 3) := by decide +kernel
theorem dX12_number_65 : decode cX12_number 65 = .ok (.iload_n 3, 1) := by decide +kernel
theorem dX12_number_66 : decode cX12_number 66 = .ok (.ireturn, 1) := by decide +kernel
theorem dX12_number_54 : decode cX12_number 54 = .ok (.iconst 0, 1) := by decide +kernel
theorem dX12_number_55 : decode cX12_number 55 = .ok (.ireturn, 1) := by decide +kernel
theorem dX12_number_27 : decode cX12_number 27 = .ok (.aload_n 0, 1) := by decide +kernel
theorem dX12_number_28 : decode cX12_number 28 = .ok (.getfield 131, 3) := by decide +kernel
theorem dX12_number_31 : decode cX12_number 31 = .ok (.i2l, 1) := by decide +kernel
theorem dX12_number_32 : decode cX12_number 32 = .ok (.iload_n 1, 1) := by decide +kernel
theorem dX12_number_33 : decode cX12_number 33 = .ok (.i2l, 1) := by decide +kernel
theorem dX12_number_34 : decode cX12_number 34 = .ok (.iload_n 2, 1) := by decide +kernel
theorem dX12_number_35 : decode cX12_number 35 = .ok (.i2l, 1) := by decide +kernel
theorem dX12_number_36 : decode cX12_number 36 = .ok (.invokestatic 79, 3) := by decide +kernel
theorem dX12_number_39 : decode cX12_number 39 = .ok (.ifCond .ne 8, 3) := by decide +kernel
theorem dX12_number_42 : decode cX12_number 42 = .ok (.aload_n 0, 1) := by decide +kernel
theorem dX12_number_43 : decode cX12_number 43 = .ok (.iconst 2, 1) := by decide +kernel
theorem dX12_number_44 : decode cX12_number 44 = .ok (.invokevirtual 162, 3) := by decide +kernel
theorem dX12_number_7 : decode cX12_number 7 = .ok (.aload_n 0, 1) := by decide +kernel
theorem dX12_number_8 : decode cX12_number 8 = .ok (.getfield 120, 3) := by decide +kernel
theorem dX12_number_11 : decode cX12_number 11 = .ok (.iconst 2, 1) := by decide +kernel
theorem dX12_number_12 : decode cX12_number 12 = .ok (.if_icmp .eq 8, 3) := by decide +kernel
theorem dX12_number_15 : decode cX12_number 15 = .ok (.aload_n 0, 1) := by decide +kernel
theorem dX12_number_16 : decode cX12_number 16 = .ok (.iconst 1, 1) := by decide +kernel
theorem dX12_number_17 : decode cX12_number 17 = .ok (.invokevirtual 162, 3) := by decide +kernel
theorem dX12_needs_0 : decode cX12_needs 0 = .ok (.aload_n 0, 1) := by decide +kernel
theorem dX12_needs_1 : decode cX12_needs 1 = .ok (.aload_n 1, 1) := by decide +kernel
theorem dX12_needs_2 : decode cX12_needs 2 = .ok (.invokevirtual 159, 3) := by decide +kernel
theorem dX12_needs_5 : decode cX12_needs 5 = .ok (.ifCond .ne 8, 3) := by decide +kernel
theorem dX12_needs_13 : decode cX12_needs 13 = .ok (.return_, 1) := by decide +kernel
theorem dX12_needs_8 : decode cX12_needs 8 = .ok (.aload_n 0, 1) := by decide +kernel
theorem dX12_needs_9 : decode cX12_needs 9 = .ok (.iconst 1, 1) := by decide +kernel
theorem dX12_needs_10 : decode cX12_needs 10 = .ok (.invokevirtual 162, 3) := by decide +kernel
theorem dX12_told_0 : decode cX12_told 0 = .ok (.aload_n 0, 1) := by decide +kernel
theorem dX12_told_1 : decode cX12_told 1 = .ok (.aload_n 1, 1) := by decide +kernel
theorem dX12_told_2 : decode cX12_told 2 = .ok (.invokevirtual 166, 3) := by decide +kernel
theorem dX12_told_5 : decode cX12_told 5 = .ok (.aload_n 0, 1) := by decide +kernel
theorem dX12_told_6 : decode cX12_told 6 = .ok (.iload_n 2, 1) := by decide +kernel
theorem dX12_told_7 : decode cX12_told 7 = .ok (.iload_n 3, 1) := by decide +kernel
theorem dX12_told_8 : decode cX12_told 8 = .ok (.invokevirtual 170, 3) := by decide +kernel
theorem dX12_told_11 : decode cX12_told 11 = .ok (.ireturn, 1) := by decide +kernel
theorem dX12_readLoss_0 : decode cX12_readLoss 0 = .ok (.sipush 1012, 3) := by decide +kernel
theorem dX12_readLoss_3 : decode cX12_readLoss 3 = .ok (.iconst 3, 1) := by decide +kernel
theorem dX12_readLoss_4 : decode cX12_readLoss 4 = .ok (.aload_n 0, 1) := by decide +kernel
theorem dX12_readLoss_5 : decode cX12_readLoss 5 = .ok (.getfield 34, 3) := by decide +kernel
theorem dX12_readLoss_8 : decode cX12_readLoss 8 = .ok (.bipush 6, 2) := by decide +kernel
theorem dX12_readLoss_10 : decode cX12_readLoss 10 = .ok (.iaload, 1) := by decide +kernel
theorem dX12_readLoss_11 : decode cX12_readLoss 11 = .ok (.imul, 1) := by decide +kernel
theorem dX12_readLoss_12 : decode cX12_readLoss 12 = .ok (.iadd, 1) := by decide +kernel
theorem dX12_readLoss_13 : decode cX12_readLoss 13 = .ok (.istore_n 1, 1) := by decide +kernel
theorem dX12_readLoss_14 : decode cX12_readLoss 14 = .ok (.aload_n 0, 1) := by decide +kernel
theorem dX12_readLoss_15 : decode cX12_readLoss 15 = .ok (.ldc_w 287, 3) := by decide +kernel
theorem dX12_readLoss_18 : decode cX12_readLoss 18 = .ok (.invokevirtual 152, 3) := by decide +kernel
theorem dX12_readLoss_49 : decode cX12_readLoss 49 = .ok (.istore_n 2, 1) := by decide +kernel
theorem dX12_readLoss_50 : decode cX12_readLoss 50 = .ok (.iload_n 2, 1) := by decide +kernel
theorem dX12_readLoss_51 : decode cX12_readLoss 51 = .ok (.ifCond .ne 8, 3) := by decide +kernel
theorem dX12_readLoss_59 : decode cX12_readLoss 59 = .ok (.iload_n 2, 1) := by decide +kernel
theorem dX12_readLoss_60 : decode cX12_readLoss 60 = .ok (.ifCond .eq 20, 3) := by decide +kernel
theorem dX12_readLoss_63 : decode cX12_readLoss 63 = .ok (.aload_n 0, 1) := by decide +kernel
theorem dX12_readLoss_64 : decode cX12_readLoss 64 = .ok (.getfield 34, 3) := by decide +kernel
theorem dX12_readLoss_67 : decode cX12_readLoss 67 = .ok (.bipush 6, 2) := by decide +kernel
theorem dX12_readLoss_69 : decode cX12_readLoss 69 = .ok (.iaload, 1) := by decide +kernel
theorem dX12_readLoss_70 : decode cX12_readLoss 70 = .ok (.bipush 12, 2) := by decide +kernel
theorem dX12_readLoss_72 : decode cX12_readLoss 72 = .ok (.if_icmp .ne 8, 3) := by decide +kernel
theorem dX12_readLoss_80 : decode cX12_readLoss 80 = .ok (.aload_n 0, 1) := by decide +kernel
theorem dX12_readLoss_81 : decode cX12_readLoss 81 = .ok (.invokevirtual 139, 3) := by decide +kernel
theorem dX12_readLoss_84 : decode cX12_readLoss 84 = .ok (.ifCond .ne 4, 3) := by decide +kernel
theorem dX12_readLoss_88 : decode cX12_readLoss 88 = .ok (.aload_n 0, 1) := by decide +kernel
theorem dX12_readLoss_89 : decode cX12_readLoss 89 = .ok (.ldc_w 287, 3) := by decide +kernel
theorem dX12_readLoss_92 : decode cX12_readLoss 92 = .ok (.invokevirtual 159, 3) := by decide +kernel
theorem dX12_readLoss_95 : decode cX12_readLoss 95 = .ok (.ifCond .eq 98, 3) := by decide +kernel
theorem dX12_readLoss_193 : decode cX12_readLoss 193 = .ok (.aload_n 0, 1) := by decide +kernel
theorem dX12_readLoss_194 : decode cX12_readLoss 194 = .ok (.ldc_w 289, 3) := by decide +kernel
theorem dX12_readLoss_197 : decode cX12_readLoss 197 = .ok (.invokevirtual 159, 3) := by decide +kernel
theorem dX12_readLoss_200 : decode cX12_readLoss 200 = .ok (.ifCond .eq 47, 3) := by decide +kernel
theorem dX12_readLoss_247 : decode cX12_readLoss 247 = .ok (.aload_n 0, 1) := by decide +kernel
theorem dX12_readLoss_248 : decode cX12_readLoss 248 = .ok (.invokevirtual 156, 3) := by decide +kernel
theorem dX12_readLoss_251 : decode cX12_readLoss 251 = .ok (.aload_n 0, 1) := by decide +kernel
theorem dX12_readLoss_252 : decode cX12_readLoss 252 = .ok (.getfield 34, 3) := by decide +kernel
theorem dX12_readLoss_255 : decode cX12_readLoss 255 = .ok (.iload_n 1, 1) := by decide +kernel
theorem dX12_readLoss_256 : decode cX12_readLoss 256 = .ok (.iconst 3, 1) := by decide +kernel
theorem dX12_readLoss_257 : decode cX12_readLoss 257 = .ok (.iastore, 1) := by decide +kernel
theorem dX12_readLoss_258 : decode cX12_readLoss 258 = .ok (.aload_n 0, 1) := by decide +kernel
theorem dX12_readLoss_259 : decode cX12_readLoss 259 = .ok (.invokevirtual 178, 3) := by decide +kernel
theorem dX12_readLoss_262 : decode cX12_readLoss 262 = .ok (.aload_n 0, 1) := by decide +kernel
theorem dX12_readLoss_263 : decode cX12_readLoss 263 = .ok (.getfield 34, 3) := by decide +kernel
theorem dX12_readLoss_266 : decode cX12_readLoss 266 = .ok (.bipush 6, 2) := by decide +kernel
theorem dX12_readLoss_268 : decode cX12_readLoss 268 = .ok (.dup2, 1) := by decide +kernel
theorem dX12_readLoss_269 : decode cX12_readLoss 269 = .ok (.iaload, 1) := by decide +kernel
theorem dX12_readLoss_270 : decode cX12_readLoss 270 = .ok (.iconst 1, 1) := by decide +kernel
theorem dX12_readLoss_271 : decode cX12_readLoss 271 = .ok (.iadd, 1) := by decide +kernel
theorem dX12_readLoss_272 : decode cX12_readLoss 272 = .ok (.iastore, 1) := by decide +kernel
theorem dX12_readLoss_273 : decode cX12_readLoss 273 = .ok (.return_, 1) := by decide +kernel
theorem dX12_readLoss_203 : decode cX12_readLoss 203 = .ok (.aload_n 0, 1) := by decide +kernel
theorem dX12_readLoss_204 : decode cX12_readLoss 204 = .ok (.getfield 34, 3) := by decide +kernel
theorem dX12_readLoss_207 : decode cX12_readLoss 207 = .ok (.iload_n 1, 1) := by decide +kernel
theorem dX12_readLoss_208 : decode cX12_readLoss 208 = .ok (.iconst 2, 1) := by decide +kernel
theorem dX12_readLoss_209 : decode cX12_readLoss 209 = .ok (.iastore, 1) := by decide +kernel
theorem dX12_readLoss_210 : decode cX12_readLoss 210 = .ok (.aload_n 0, 1) := by decide +kernel
theorem dX12_readLoss_211 : decode cX12_readLoss 211 = .ok (.getfield 34, 3) := by decide +kernel
theorem dX12_readLoss_214 : decode cX12_readLoss 214 = .ok (.iload_n 1, 1) := by decide +kernel
theorem dX12_readLoss_215 : decode cX12_readLoss 215 = .ok (.iconst 1, 1) := by decide +kernel
theorem dX12_readLoss_216 : decode cX12_readLoss 216 = .ok (.iadd, 1) := by decide +kernel
theorem dX12_readLoss_217 : decode cX12_readLoss 217 = .ok (.aload_n 0, 1) := by decide +kernel
theorem dX12_readLoss_218 : decode cX12_readLoss 218 = .ok (.iconst 1, 1) := by decide +kernel
theorem dX12_readLoss_219 : decode cX12_readLoss 219 = .ok (.bipush 99, 2) := by decide +kernel
theorem dX12_readLoss_221 : decode cX12_readLoss 221 = .ok (.invokevirtual 170, 3) := by decide +kernel
theorem dX12_readLoss_224 : decode cX12_readLoss 224 = .ok (.iastore, 1) := by decide +kernel
theorem dX12_readLoss_225 : decode cX12_readLoss 225 = .ok (.aload_n 0, 1) := by decide +kernel
theorem dX12_readLoss_226 : decode cX12_readLoss 226 = .ok (.getfield 34, 3) := by decide +kernel
theorem dX12_readLoss_229 : decode cX12_readLoss 229 = .ok (.iload_n 1, 1) := by decide +kernel
theorem dX12_readLoss_230 : decode cX12_readLoss 230 = .ok (.iconst 2, 1) := by decide +kernel
theorem dX12_readLoss_231 : decode cX12_readLoss 231 = .ok (.iadd, 1) := by decide +kernel
theorem dX12_readLoss_232 : decode cX12_readLoss 232 = .ok (.aload_n 0, 1) := by decide +kernel
theorem dX12_readLoss_233 : decode cX12_readLoss 233 = .ok (.ldc_w 297, 3) := by decide +kernel
theorem dX12_readLoss_236 : decode cX12_readLoss 236 = .ok (.iconst 0, 1) := by decide +kernel
theorem dX12_readLoss_237 : decode cX12_readLoss 237 = .ok (.sipush 255, 3) := by decide +kernel
theorem dX12_readLoss_240 : decode cX12_readLoss 240 = .ok (.invokevirtual 189, 3) := by decide +kernel
theorem dX12_readLoss_243 : decode cX12_readLoss 243 = .ok (.iastore, 1) := by decide +kernel
theorem dX12_readLoss_244 : decode cX12_readLoss 244 = .ok (.goto 14, 3) := by decide +kernel
theorem dX12_readLoss_98 : decode cX12_readLoss 98 = .ok (.aload_n 0, 1) := by decide +kernel
theorem dX12_readLoss_99 : decode cX12_readLoss 99 = .ok (.ldc_w 293, 3) := by decide +kernel
theorem dX12_readLoss_102 : decode cX12_readLoss 102 = .ok (.invokevirtual 152, 3) := by decide +kernel
theorem dX12_readLoss_105 : decode cX12_readLoss 105 = .ok (.istore_n 3, 1) := by decide +kernel
theorem dX12_readLoss_106 : decode cX12_readLoss 106 = .ok (.iload_n 3, 1) := by decide +kernel
theorem dX12_readLoss_107 : decode cX12_readLoss 107 = .ok (.ifCond .ne 17, 3) := by decide +kernel
theorem dX12_readLoss_124 : decode cX12_readLoss 124 = .ok (.aload_n 0, 1) := by decide +kernel
theorem dX12_readLoss_125 : decode cX12_readLoss 125 = .ok (.invokevirtual 139, 3) := by decide +kernel
theorem dX12_readLoss_128 : decode cX12_readLoss 128 = .ok (.ifCond .eq 7, 3) := by decide +kernel
theorem dX12_readLoss_131 : decode cX12_readLoss 131 = .ok (.aload_n 0, 1) := by decide +kernel
theorem dX12_readLoss_132 : decode cX12_readLoss 132 = .ok (.invokevirtual 156, 3) := by decide +kernel
theorem dX12_readLoss_135 : decode cX12_readLoss 135 = .ok (.aload_n 0, 1) := by decide +kernel
theorem dX12_readLoss_136 : decode cX12_readLoss 136 = .ok (.getfield 34, 3) := by decide +kernel
theorem dX12_readLoss_139 : decode cX12_readLoss 139 = .ok (.iload_n 1, 1) := by decide +kernel
theorem dX12_readLoss_140 : decode cX12_readLoss 140 = .ok (.iload_n 3, 1) := by decide +kernel
theorem dX12_readLoss_141 : decode cX12_readLoss 141 = .ok (.ifCond .eq 7, 3) := by decide +kernel
theorem dX12_readLoss_144 : decode cX12_readLoss 144 = .ok (.iconst 1, 1) := by decide +kernel
theorem dX12_readLoss_145 : decode cX12_readLoss 145 = .ok (.goto 4, 3) := by decide +kernel
theorem dX12_readLoss_149 : decode cX12_readLoss 149 = .ok (.iastore, 1) := by decide +kernel
theorem dX12_readLoss_150 : decode cX12_readLoss 150 = .ok (.aload_n 0, 1) := by decide +kernel
theorem dX12_readLoss_151 : decode cX12_readLoss 151 = .ok (.getfield 34, 3) := by decide +kernel
theorem dX12_readLoss_154 : decode cX12_readLoss 154 = .ok (.iload_n 1, 1) := by decide +kernel
theorem dX12_readLoss_155 : decode cX12_readLoss 155 = .ok (.iconst 1, 1) := by decide +kernel
theorem dX12_readLoss_156 : decode cX12_readLoss 156 = .ok (.iadd, 1) := by decide +kernel
theorem dX12_readLoss_157 : decode cX12_readLoss 157 = .ok (.aload_n 0, 1) := by decide +kernel
theorem dX12_readLoss_158 : decode cX12_readLoss 158 = .ok (.iconst 0, 1) := by decide +kernel
theorem dX12_readLoss_159 : decode cX12_readLoss 159 = .ok (.bipush 15, 2) := by decide +kernel
theorem dX12_readLoss_161 : decode cX12_readLoss 161 = .ok (.invokevirtual 170, 3) := by decide +kernel
theorem dX12_readLoss_164 : decode cX12_readLoss 164 = .ok (.iastore, 1) := by decide +kernel
theorem dX12_readLoss_165 : decode cX12_readLoss 165 = .ok (.aload_n 0, 1) := by decide +kernel
theorem dX12_readLoss_166 : decode cX12_readLoss 166 = .ok (.getfield 34, 3) := by decide +kernel
theorem dX12_readLoss_169 : decode cX12_readLoss 169 = .ok (.iload_n 1, 1) := by decide +kernel
theorem dX12_readLoss_170 : decode cX12_readLoss 170 = .ok (.iconst 2, 1) := by decide +kernel
theorem dX12_readLoss_171 : decode cX12_readLoss 171 = .ok (.iadd, 1) := by decide +kernel
theorem dX12_readLoss_172 : decode cX12_readLoss 172 = .ok (.aload_n 0, 1) := by decide +kernel
theorem dX12_readLoss_173 : decode cX12_readLoss 173 = .ok (.ldc_w 295, 3) := by decide +kernel
theorem dX12_readLoss_176 : decode cX12_readLoss 176 = .ok (.aload_n 0, 1) := by decide +kernel
theorem dX12_readLoss_177 : decode cX12_readLoss 177 = .ok (.getfield 34, 3) := by decide +kernel
theorem dX12_readLoss_180 : decode cX12_readLoss 180 = .ok (.iload_n 1, 1) := by decide +kernel
theorem dX12_readLoss_181 : decode cX12_readLoss 181 = .ok (.iconst 1, 1) := by decide +kernel
theorem dX12_readLoss_182 : decode cX12_readLoss 182 = .ok (.iadd, 1) := by decide +kernel
theorem dX12_readLoss_183 : decode cX12_readLoss 183 = .ok (.iaload, 1) := by decide +kernel
theorem dX12_readLoss_184 : decode cX12_readLoss 184 = .ok (.bipush 15, 2) := by decide +kernel
theorem dX12_readLoss_186 : decode cX12_readLoss 186 = .ok (.invokevirtual 189, 3) := by decide +kernel
theorem dX12_readLoss_189 : decode cX12_readLoss 189 = .ok (.iastore, 1) := by decide +kernel
theorem dX12_readLoss_190 : decode cX12_readLoss 190 = .ok (.goto 68, 3) := by decide +kernel
theorem dX12_readLoss_110 : decode cX12_readLoss 110 = .ok (.aload_n 0, 1) := by decide +kernel
theorem dX12_readLoss_111 : decode cX12_readLoss 111 = .ok (.ldc 193, 2) := by decide +kernel
theorem dX12_readLoss_113 : decode cX12_readLoss 113 = .ok (.invokevirtual 152, 3) := by decide +kernel
theorem dX12_readLoss_116 : decode cX12_readLoss 116 = .ok (.ifCond .ne 8, 3) := by decide +kernel
theorem dX12_readLoss_148 : decode cX12_readLoss 148 = .ok (.iconst 0, 1) := by decide +kernel
theorem dX12_readLoss_119 : decode cX12_readLoss 119 = .ok (.aload_n 0, 1) := by decide +kernel
theorem dX12_readLoss_120 : decode cX12_readLoss 120 = .ok (.iconst 1, 1) := by decide +kernel
theorem dX12_readLoss_121 : decode cX12_readLoss 121 = .ok (.invokevirtual 162, 3) := by decide +kernel
theorem dX12_readLoss_87 : decode cX12_readLoss 87 = .ok (.return_, 1) := by decide +kernel
theorem dX12_readLoss_75 : decode cX12_readLoss 75 = .ok (.aload_n 0, 1) := by decide +kernel
theorem dX12_readLoss_76 : decode cX12_readLoss 76 = .ok (.iconst 3, 1) := by decide +kernel
theorem dX12_readLoss_77 : decode cX12_readLoss 77 = .ok (.invokevirtual 162, 3) := by decide +kernel
theorem dX12_readLoss_54 : decode cX12_readLoss 54 = .ok (.aload_n 0, 1) := by decide +kernel
theorem dX12_readLoss_55 : decode cX12_readLoss 55 = .ok (.iconst 1, 1) := by decide +kernel
theorem dX12_readLoss_56 : decode cX12_readLoss 56 = .ok (.invokevirtual 162, 3) := by decide +kernel
theorem dX12_readLoss_21 : decode cX12_readLoss 21 = .ok (.ifCond .ne 23, 3) := by decide +kernel
theorem dX12_readLoss_44 : decode cX12_readLoss 44 = .ok (.iconst 1, 1) := by decide +kernel
theorem dX12_readLoss_45 : decode cX12_readLoss 45 = .ok (.goto 4, 3) := by decide +kernel
theorem dX12_readLoss_24 : decode cX12_readLoss 24 = .ok (.aload_n 0, 1) := by decide +kernel
theorem dX12_readLoss_25 : decode cX12_readLoss 25 = .ok (.ldc_w 289, 3) := by decide +kernel
theorem dX12_readLoss_28 : decode cX12_readLoss 28 = .ok (.invokevirtual 152, 3) := by decide +kernel
theorem dX12_readLoss_31 : decode cX12_readLoss 31 = .ok (.ifCond .ne 13, 3) := by decide +kernel
theorem dX12_readLoss_34 : decode cX12_readLoss 34 = .ok (.aload_n 0, 1) := by decide +kernel
theorem dX12_readLoss_35 : decode cX12_readLoss 35 = .ok (.ldc_w 291, 3) := by decide +kernel
theorem dX12_readLoss_38 : decode cX12_readLoss 38 = .ok (.invokevirtual 152, 3) := by decide +kernel
theorem dX12_readLoss_41 : decode cX12_readLoss 41 = .ok (.ifCond .eq 7, 3) := by decide +kernel
theorem dX12_readLoss_48 : decode cX12_readLoss 48 = .ok (.iconst 0, 1) := by decide +kernel
theorem dX12_losses_0 : decode cX12_losses 0 = .ok (.aload_n 0, 1) := by decide +kernel
theorem dX12_losses_1 : decode cX12_losses 1 = .ok (.invokevirtual 181, 3) := by decide +kernel
theorem dX12_losses_4 : decode cX12_losses 4 = .ok (.aload_n 0, 1) := by decide +kernel
theorem dX12_losses_5 : decode cX12_losses 5 = .ok (.getfield 34, 3) := by decide +kernel
theorem dX12_losses_8 : decode cX12_losses 8 = .ok (.bipush 6, 2) := by decide +kernel
theorem dX12_losses_10 : decode cX12_losses 10 = .ok (.iconst 0, 1) := by decide +kernel
theorem dX12_losses_11 : decode cX12_losses 11 = .ok (.iastore, 1) := by decide +kernel
theorem dX12_losses_12 : decode cX12_losses 12 = .ok (.aload_n 0, 1) := by decide +kernel
theorem dX12_losses_13 : decode cX12_losses 13 = .ok (.invokevirtual 156, 3) := by decide +kernel
theorem dX12_losses_16 : decode cX12_losses 16 = .ok (.aload_n 0, 1) := by decide +kernel
theorem dX12_losses_17 : decode cX12_losses 17 = .ok (.invokevirtual 139, 3) := by decide +kernel
theorem dX12_losses_20 : decode cX12_losses 20 = .ok (.ifCond .eq 17, 3) := by decide +kernel
theorem dX12_losses_37 : decode cX12_losses 37 = .ok (.aload_n 0, 1) := by decide +kernel
theorem dX12_losses_38 : decode cX12_losses 38 = .ok (.invokevirtual 139, 3) := by decide +kernel
theorem dX12_losses_41 : decode cX12_losses 41 = .ok (.ifCond .ne 6, 3) := by decide +kernel
theorem dX12_losses_44 : decode cX12_losses 44 = .ok (.bipush (-4), 2) := by decide +kernel
theorem dX12_losses_46 : decode cX12_losses 46 = .ok (.ireturn, 1) := by decide +kernel
theorem dX12_losses_23 : decode cX12_losses 23 = .ok (.aload_n 0, 1) := by decide +kernel
theorem dX12_losses_24 : decode cX12_losses 24 = .ok (.getfield 120, 3) := by decide +kernel
theorem dX12_losses_27 : decode cX12_losses 27 = .ok (.ifCond .eq 10, 3) := by decide +kernel
theorem dX12_losses_47 : decode cX12_losses 47 = .ok (.aload_n 0, 1) := by decide +kernel
theorem dX12_losses_48 : decode cX12_losses 48 = .ok (.getfield 13, 3) := by decide +kernel
theorem dX12_losses_51 : decode cX12_losses 51 = .ok (.bipush 6, 2) := by decide +kernel
theorem dX12_losses_53 : decode cX12_losses 53 = .ok (.aload_n 0, 1) := by decide +kernel
theorem dX12_losses_54 : decode cX12_losses 54 = .ok (.getfield 34, 3) := by decide +kernel
theorem dX12_losses_57 : decode cX12_losses 57 = .ok (.bipush 6, 2) := by decide +kernel
theorem dX12_losses_59 : decode cX12_losses 59 = .ok (.iaload, 1) := by decide +kernel
theorem dX12_losses_60 : decode cX12_losses 60 = .ok (.iastore, 1) := by decide +kernel
theorem dX12_losses_61 : decode cX12_losses 61 = .ok (.aload_n 0, 1) := by decide +kernel
theorem dX12_losses_62 : decode cX12_losses 62 = .ok (.sipush 1012, 3) := by decide +kernel
theorem dX12_losses_65 : decode cX12_losses 65 = .ok (.sipush 1048, 3) := by decide +kernel
theorem dX12_losses_68 : decode cX12_losses 68 = .ok (.invokevirtual 197, 3) := by decide +kernel
theorem dX12_losses_71 : decode cX12_losses 71 = .ok (.aload_n 0, 1) := by decide +kernel
theorem dX12_losses_72 : decode cX12_losses 72 = .ok (.getfield 13, 3) := by decide +kernel
theorem dX12_losses_75 : decode cX12_losses 75 = .ok (.bipush 6, 2) := by decide +kernel
theorem dX12_losses_77 : decode cX12_losses 77 = .ok (.iaload, 1) := by decide +kernel
theorem dX12_losses_78 : decode cX12_losses 78 = .ok (.ireturn, 1) := by decide +kernel
theorem dX12_losses_30 : decode cX12_losses 30 = .ok (.aload_n 0, 1) := by decide +kernel
theorem dX12_losses_31 : decode cX12_losses 31 = .ok (.invokevirtual 298, 3) := by decide +kernel
theorem dX12_losses_34 : decode cX12_losses 34 = .ok (.goto (-18), 3) := by decide +kernel
