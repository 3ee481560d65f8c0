theorem dX12_in_0 : decode cX12_in 0 = .ok (.lload_n 0, 1) := by decide +kernel
theorem dX12_in_1 : decode cX12_in 1 = .ok (.lload_n 2, 1) := by decide +kernel
theorem dX12_in_2 : decode cX12_in 2 = .ok (.lcmp, 1) := by decide +kernel
theorem dX12_in_3 : decode cX12_in 3 = .ok (.ifCond .lt 14, 3) := by decide +kernel
theorem dX12_in_17 : decode cX12_in 17 = .ok (.iconst 0, 1) := by decide +kernel
theorem dX12_in_18 : decode cX12_in 18 = .ok (.ireturn, 1) := by decide +kernel
theorem dX12_in_6 : decode cX12_in 6 = .ok (.lload_n 0, 1) := by decide +kernel
theorem dX12_in_7 : decode cX12_in 7 = .ok (.lload 4, 2) := by decide +kernel
theorem dX12_in_9 : decode cX12_in 9 = .ok (.lcmp, 1) := by decide +kernel
theorem dX12_in_10 : decode cX12_in 10 = .ok (.ifCond .gt 7, 3) := by decide +kernel
theorem dX12_in_13 : decode cX12_in 13 = .ok (.iconst 1, 1) := by decide +kernel
theorem dX12_in_14 : decode cX12_in 14 = .ok (.goto 4, 3) := by decide +kernel
theorem dX12_see_0 : decode cX12_see 0 = .ok (.iload_n 1, 1) := by decide +kernel
theorem dX12_see_1 : decode cX12_see 1 = .ok (.aload_n 0, 1) := by decide +kernel
theorem dX12_see_2 : decode cX12_see 2 = .ok (.getfield 105, 3) := by decide +kernel
theorem dX12_see_5 : decode cX12_see 5 = .ok (.if_icmp .ge 16, 3) := by decide +kernel
theorem dX12_see_21 : decode cX12_see 21 = .ok (.iconst (-1), 1) := by decide +kernel
theorem dX12_see_22 : decode cX12_see 22 = .ok (.ireturn, 1) := by decide +kernel
theorem dX12_see_8 : decode cX12_see 8 = .ok (.aload_n 0, 1) := by decide +kernel
theorem dX12_see_9 : decode cX12_see 9 = .ok (.getfield 24, 3) := by decide +kernel
theorem dX12_see_12 : decode cX12_see 12 = .ok (.iload_n 1, 1) := by decide +kernel
theorem dX12_see_13 : decode cX12_see 13 = .ok (.baload, 1) := by decide +kernel
theorem dX12_see_14 : decode cX12_see 14 = .ok (.sipush 255, 3) := by decide +kernel
theorem dX12_see_17 : decode cX12_see 17 = .ok (.iand, 1) := by decide +kernel
theorem dX12_see_18 : decode cX12_see 18 = .ok (.goto 4, 3) := by decide +kernel
theorem dX12_begin_0 : decode cX12_begin 0 = .ok (.aload_n 0, 1) := by decide +kernel
theorem dX12_begin_1 : decode cX12_begin 1 = .ok (.aload_n 0, 1) := by decide +kernel
theorem dX12_begin_2 : decode cX12_begin 2 = .ok (.getfield 102, 3) := by decide +kernel
theorem dX12_begin_5 : decode cX12_begin 5 = .ok (.putfield 105, 3) := by decide +kernel
theorem dX12_begin_8 : decode cX12_begin 8 = .ok (.aload_n 0, 1) := by decide +kernel
theorem dX12_begin_9 : decode cX12_begin 9 = .ok (.iconst 0, 1) := by decide +kernel
theorem dX12_begin_10 : decode cX12_begin 10 = .ok (.putfield 102, 3) := by decide +kernel
theorem dX12_begin_13 : decode cX12_begin 13 = .ok (.aload_n 0, 1) := by decide +kernel
theorem dX12_begin_14 : decode cX12_begin 14 = .ok (.iconst 0, 1) := by decide +kernel
theorem dX12_begin_15 : decode cX12_begin 15 = .ok (.putfield 108, 3) := by decide +kernel
theorem dX12_begin_18 : decode cX12_begin 18 = .ok (.aload_n 0, 1) := by decide +kernel
theorem dX12_begin_19 : decode cX12_begin 19 = .ok (.iconst 0, 1) := by decide +kernel
theorem dX12_begin_20 : decode cX12_begin 20 = .ok (.putfield 111, 3) := by decide +kernel
theorem dX12_begin_23 : decode cX12_begin 23 = .ok (.aload_n 0, 1) := by decide +kernel
theorem dX12_begin_24 : decode cX12_begin 24 = .ok (.iconst (-1), 1) := by decide +kernel
theorem dX12_begin_25 : decode cX12_begin 25 = .ok (.putfield 31, 3) := by decide +kernel
theorem dX12_begin_28 : decode cX12_begin 28 = .ok (.return_, 1) := by decide +kernel
theorem dX12_advance_0 : decode cX12_advance 0 = .ok (.aload_n 0, 1) := by decide +kernel
theorem dX12_advance_1 : decode cX12_advance 1 = .ok (.aload_n 0, 1) := by decide +kernel
theorem dX12_advance_2 : decode cX12_advance 2 = .ok (.getfield 108, 3) := by decide +kernel
theorem dX12_advance_5 : decode cX12_advance 5 = .ok (.invokevirtual 114, 3) := by decide +kernel
theorem dX12_advance_8 : decode cX12_advance 8 = .ok (.bipush 32, 2) := by decide +kernel
theorem dX12_advance_10 : decode cX12_advance 10 = .ok (.if_icmp .eq 16, 3) := by decide +kernel
theorem dX12_advance_26 : decode cX12_advance 26 = .ok (.aload_n 0, 1) := by decide +kernel
theorem dX12_advance_27 : decode cX12_advance 27 = .ok (.dup, 1) := by decide +kernel
theorem dX12_advance_28 : decode cX12_advance 28 = .ok (.getfield 108, 3) := by decide +kernel
theorem dX12_advance_31 : decode cX12_advance 31 = .ok (.iconst 1, 1) := by decide +kernel
theorem dX12_advance_32 : decode cX12_advance 32 = .ok (.iadd, 1) := by decide +kernel
theorem dX12_advance_33 : decode cX12_advance 33 = .ok (.putfield 108, 3) := by decide +kernel
theorem dX12_advance_36 : decode cX12_advance 36 = .ok (.goto (-36), 3) := by decide +kernel
theorem dX12_advance_13 : decode cX12_advance 13 = .ok (.aload_n 0, 1) := by decide +kernel
theorem dX12_advance_14 : decode cX12_advance 14 = .ok (.aload_n 0, 1) := by decide +kernel
theorem dX12_advance_15 : decode cX12_advance 15 = .ok (.getfield 108, 3) := by decide +kernel
theorem dX12_advance_18 : decode cX12_advance 18 = .ok (.invokevirtual 114, 3) := by decide +kernel
theorem dX12_advance_21 : decode cX12_advance 21 = .ok (.bipush 10, 2) := by decide +kernel
theorem dX12_advance_23 : decode cX12_advance 23 = .ok (.if_icmp .ne 16, 3) := by decide +kernel
theorem dX12_advance_39 : decode cX12_advance 39 = .ok (.aload_n 0, 1) := by decide +kernel
theorem dX12_advance_40 : decode cX12_advance 40 = .ok (.aload_n 0, 1) := by decide +kernel
theorem dX12_advance_41 : decode cX12_advance 41 = .ok (.getfield 108, 3) := by decide +kernel
theorem dX12_advance_44 : decode cX12_advance 44 = .ok (.putfield 117, 3) := by decide +kernel
theorem dX12_advance_47 : decode cX12_advance 47 = .ok (.aload_n 0, 1) := by decide +kernel
theorem dX12_advance_48 : decode cX12_advance 48 = .ok (.aload_n 0, 1) := by decide +kernel
theorem dX12_advance_49 : decode cX12_advance 49 = .ok (.getfield 108, 3) := by decide +kernel
theorem dX12_advance_52 : decode cX12_advance 52 = .ok (.invokevirtual 114, 3) := by decide +kernel
theorem dX12_advance_55 : decode cX12_advance 55 = .ok (.istore_n 1, 1) := by decide +kernel
theorem dX12_advance_56 : decode cX12_advance 56 = .ok (.iload_n 1, 1) := by decide +kernel
theorem dX12_advance_57 : decode cX12_advance 57 = .ok (.iconst (-1), 1) := by decide +kernel
theorem dX12_advance_58 : decode cX12_advance 58 = .ok (.if_icmp .ne 11, 3) := by decide +kernel
theorem dX12_advance_69 : decode cX12_advance 69 = .ok (.iload_n 1, 1) := by decide +kernel
theorem dX12_advance_70 : decode cX12_advance 70 = .ok (.i2l, 1) := by decide +kernel
theorem dX12_advance_71 : decode cX12_advance 71 = .ok (.ldc2_w 123, 3) := by decide +kernel
theorem dX12_advance_74 : decode cX12_advance 74 = .ok (.ldc2_w 125, 3) := by decide +kernel
theorem dX12_advance_77 : decode cX12_advance 77 = .ok (.invokestatic 79, 3) := by decide +kernel
theorem dX12_advance_80 : decode cX12_advance 80 = .ok (.ifCond .eq 45, 3) := by decide +kernel
theorem dX12_advance_125 : decode cX12_advance 125 = .ok (.iload_n 1, 1) := by decide +kernel
theorem dX12_advance_126 : decode cX12_advance 126 = .ok (.i2l, 1) := by decide +kernel
theorem dX12_advance_127 : decode cX12_advance 127 = .ok (.ldc2_w 127, 3) := by decide +kernel
theorem dX12_advance_130 : decode cX12_advance 130 = .ok (.ldc2_w 129, 3) := by decide +kernel
theorem dX12_advance_133 : decode cX12_advance 133 = .ok (.invokestatic 79, 3) := by decide +kernel
theorem dX12_advance_136 : decode cX12_advance 136 = .ok (.ifCond .eq 79, 3) := by decide +kernel
theorem dX12_advance_215 : decode cX12_advance 215 = .ok (.aload_n 0, 1) := by decide +kernel
theorem dX12_advance_216 : decode cX12_advance 216 = .ok (.iload_n 1, 1) := by decide +kernel
theorem dX12_advance_217 : decode cX12_advance 217 = .ok (.bipush 59, 2) := by decide +kernel
theorem dX12_advance_219 : decode cX12_advance 219 = .ok (.if_icmp .ne 7, 3) := by decide +kernel
theorem dX12_advance_226 : decode cX12_advance 226 = .ok (.iconst 4, 1) := by decide +kernel
theorem dX12_advance_227 : decode cX12_advance 227 = .ok (.putfield 120, 3) := by decide +kernel
theorem dX12_advance_230 : decode cX12_advance 230 = .ok (.aload_n 0, 1) := by decide +kernel
theorem dX12_advance_231 : decode cX12_advance 231 = .ok (.dup, 1) := by decide +kernel
theorem dX12_advance_232 : decode cX12_advance 232 = .ok (.getfield 108, 3) := by decide +kernel
theorem dX12_advance_235 : decode cX12_advance 235 = .ok (.iconst 1, 1) := by decide +kernel
theorem dX12_advance_236 : decode cX12_advance 236 = .ok (.iadd, 1) := by decide +kernel
theorem dX12_advance_237 : decode cX12_advance 237 = .ok (.putfield 108, 3) := by decide +kernel
theorem dX12_advance_240 : decode cX12_advance 240 = .ok (.return_, 1) := by decide +kernel
theorem dX12_advance_222 : decode cX12_advance 222 = .ok (.iconst 3, 1) := by decide +kernel
theorem dX12_advance_223 : decode cX12_advance 223 = .ok (.goto 4, 3) := by decide +kernel
theorem dX12_advance_139 : decode cX12_advance 139 = .ok (.aload_n 0, 1) := by decide +kernel
theorem dX12_advance_140 : decode cX12_advance 140 = .ok (.iconst 0, 1) := by decide +kernel
theorem dX12_advance_141 : decode cX12_advance 141 = .ok (.putfield 131, 3) := by decide +kernel
theorem dX12_advance_144 : decode cX12_advance 144 = .ok (.aload_n 0, 1) := by decide +kernel
theorem dX12_advance_145 : decode cX12_advance 145 = .ok (.aload_n 0, 1) := by decide +kernel
theorem dX12_advance_146 : decode cX12_advance 146 = .ok (.getfield 108, 3) := by decide +kernel
theorem dX12_advance_149 : decode cX12_advance 149 = .ok (.invokevirtual 114, 3) := by decide +kernel
theorem dX12_advance_152 : decode cX12_advance 152 = .ok (.i2l, 1) := by decide +kernel
theorem dX12_advance_153 : decode cX12_advance 153 = .ok (.ldc2_w 127, 3) := by decide +kernel
theorem dX12_advance_156 : decode cX12_advance 156 = .ok (.ldc2_w 129, 3) := by decide +kernel
theorem dX12_advance_159 : decode cX12_advance 159 = .ok (.invokestatic 79, 3) := by decide +kernel
theorem dX12_advance_162 : decode cX12_advance 162 = .ok (.ifCond .eq 45, 3) := by decide +kernel
theorem dX12_advance_165 : decode cX12_advance 165 = .ok (.aload_n 0, 1) := by decide +kernel
theorem dX12_advance_166 : decode cX12_advance 166 = .ok (.sipush 9999, 3) := by decide +kernel
theorem dX12_advance_169 : decode cX12_advance 169 = .ok (.bipush 10, 2) := by decide +kernel
theorem dX12_advance_171 : decode cX12_advance 171 = .ok (.aload_n 0, 1) := by decide +kernel
theorem dX12_advance_172 : decode cX12_advance 172 = .ok (.getfield 131, 3) := by decide +kernel
theorem dX12_advance_175 : decode cX12_advance 175 = .ok (.imul, 1) := by decide +kernel
theorem dX12_advance_176 : decode cX12_advance 176 = .ok (.aload_n 0, 1) := by decide +kernel
theorem dX12_advance_177 : decode cX12_advance 177 = .ok (.aload_n 0, 1) := by decide +kernel
theorem dX12_advance_178 : decode cX12_advance 178 = .ok (.getfield 108, 3) := by decide +kernel
theorem dX12_advance_181 : decode cX12_advance 181 = .ok (.invokevirtual 114, 3) := by decide +kernel
theorem dX12_advance_184 : decode cX12_advance 184 = .ok (.iadd, 1) := by decide +kernel
theorem dX12_advance_185 : decode cX12_advance 185 = .ok (.bipush 48, 2) := by decide +kernel
theorem dX12_advance_187 : decode cX12_advance 187 = .ok (.isub, 1) := by decide +kernel
theorem dX12_advance_188 : decode cX12_advance 188 = .ok (.invokestatic 134, 3) := by decide +kernel
theorem dX12_advance_191 : decode cX12_advance 191 = .ok (.putfield 131, 3) := by decide +kernel
theorem dX12_advance_194 : decode cX12_advance 194 = .ok (.aload_n 0, 1) := by decide +kernel
theorem dX12_advance_195 : decode cX12_advance 195 = .ok (.dup, 1) := by decide +kernel
theorem dX12_advance_196 : decode cX12_advance 196 = .ok (.getfield 108, 3) := by decide +kernel
theorem dX12_advance_199 : decode cX12_advance 199 = .ok (.iconst 1, 1) := by decide +kernel
theorem dX12_advance_200 : decode cX12_advance 200 = .ok (.iadd, 1) := by decide +kernel
theorem dX12_advance_201 : decode cX12_advance 201 = .ok (.putfield 108, 3) := by decide +kernel
theorem dX12_advance_204 : decode cX12_advance 204 = .ok (.goto (-60), 3) := by decide +kernel
theorem dX12_advance_207 : decode cX12_advance 207 = .ok (.aload_n 0, 1) := by decide +kernel
theorem dX12_advance_208 : decode cX12_advance 208 = .ok (.iconst 2, 1) := by decide +kernel
theorem dX12_advance_209 : decode cX12_advance 209 = .ok (.putfield 120, 3) := by decide +kernel
theorem dX12_advance_212 : decode cX12_advance 212 = .ok (.goto 28, 3) := by decide +kernel
theorem dX12_advance_83 : decode cX12_advance 83 = .ok (.aload_n 0, 1) := by decide +kernel
theorem dX12_advance_84 : decode cX12_advance 84 = .ok (.aload_n 0, 1) := by decide +kernel
theorem dX12_advance_85 : decode cX12_advance 85 = .ok (.getfield 108, 3) := by decide +kernel
theorem dX12_advance_88 : decode cX12_advance 88 = .ok (.invokevirtual 114, 3) := by decide +kernel
theorem dX12_advance_91 : decode cX12_advance 91 = .ok (.i2l, 1) := by decide +kernel
theorem dX12_advance_92 : decode cX12_advance 92 = .ok (.ldc2_w 123, 3) := by decide +kernel
theorem dX12_advance_95 : decode cX12_advance 95 = .ok (.ldc2_w 125, 3) := by decide +kernel
theorem dX12_advance_98 : decode cX12_advance 98 = .ok (.invokestatic 79, 3) := by decide +kernel
theorem dX12_advance_101 : decode cX12_advance 101 = .ok (.ifCond .eq 16, 3) := by decide +kernel
theorem dX12_advance_104 : decode cX12_advance 104 = .ok (.aload_n 0, 1) := by decide +kernel
theorem dX12_advance_105 : decode cX12_advance 105 = .ok (.dup, 1) := by decide +kernel
theorem dX12_advance_106 : decode cX12_advance 106 = .ok (.getfield 108, 3) := by decide +kernel
theorem dX12_advance_109 : decode cX12_advance 109 = .ok (.iconst 1, 1) := by decide +kernel
theorem dX12_advance_110 : decode cX12_advance 110 = .ok (.iadd, 1) := by decide +kernel
theorem dX12_advance_111 : decode cX12_advance 111 = .ok (.putfield 108, 3) := by decide +kernel
theorem dX12_advance_114 : decode cX12_advance 114 = .ok (.goto (-31), 3) := by decide +kernel
theorem dX12_advance_117 : decode cX12_advance 117 = .ok (.aload_n 0, 1) := by decide +kernel
theorem dX12_advance_118 : decode cX12_advance 118 = .ok (.iconst 1, 1) := by decide +kernel
theorem dX12_advance_119 : decode cX12_advance 119 = .ok (.putfield 120, 3) := by decide +kernel
theorem dX12_advance_122 : decode cX12_advance 122 = .ok (.goto 118, 3) := by decide +kernel
theorem dX12_advance_61 : decode cX12_advance 61 = .ok (.aload_n 0, 1) := by decide +kernel
theorem dX12_advance_62 : decode cX12_advance 62 = .ok (.iconst 0, 1) := by decide +kernel
theorem dX12_advance_63 : decode cX12_advance 63 = .ok (.putfield 120, 3) := by decide +kernel
theorem dX12_advance_66 : decode cX12_advance 66 = .ok (.goto 174, 3) := by decide +kernel
theorem dX12_good_0 : decode cX12_good 0 = .ok (.aload_n 0, 1) := by decide +kernel
theorem dX12_good_1 : decode cX12_good 1 = .ok (.getfield 111, 3) := by decide +kernel
theorem dX12_good_4 : decode cX12_good 4 = .ok (.ifCond .ne 7, 3) := by decide +kernel
theorem dX12_good_11 : decode cX12_good 11 = .ok (.iconst 0, 1) := by decide +kernel
theorem dX12_good_12 : decode cX12_good 12 = .ok (.ireturn, 1) := by decide +kernel
theorem dX12_good_7 : decode cX12_good 7 = .ok (.iconst 1, 1) := by decide +kernel
theorem dX12_good_8 : decode cX12_good 8 = .ok (.goto 4, 3) := by decide +kernel
theorem dX12_errs_0 : decode cX12_errs 0 = .ok (.aload_n 0, 1) := by decide +kernel
theorem dX12_errs_1 : decode cX12_errs 1 = .ok (.invokevirtual 139, 3) := by decide +kernel
theorem dX12_errs_4 : decode cX12_errs 4 = .ok (.ifCond .ne 4, 3) := by decide +kernel
theorem dX12_errs_8 : decode cX12_errs 8 = .ok (.aload_n 0, 1) := by decide +kernel
theorem dX12_errs_9 : decode cX12_errs 9 = .ok (.iload_n 1, 1) := by decide +kernel
theorem dX12_errs_10 : decode cX12_errs 10 = .ok (.putfield 111, 3) := by decide +kernel
theorem dX12_errs_13 : decode cX12_errs 13 = .ok (.aload_n 0, 1) := by decide +kernel
theorem dX12_errs_14 : decode cX12_errs 14 = .ok (.aload_n 0, 1) := by decide +kernel
theorem dX12_errs_15 : decode cX12_errs 15 = .ok (.getfield 117, 3) := by decide +kernel
theorem dX12_errs_18 : decode cX12_errs 18 = .ok (.putfield 31, 3) := by decide +kernel
theorem dX12_errs_21 : decode cX12_errs 21 = .ok (.return_, 1) := by decide +kernel
theorem dX12_errs_7 : decode cX12_errs 7 = .ok (.return_, 1) := by decide +kernel
theorem dJ0_coder_7d493_0 : decode cJ0_coder_7d493 0 = .ok (.getstatic 38, 3) := by decide +kernel
theorem dJ0_coder_7d493_3 : decode cJ0_coder_7d493 3 = .ok (.ifCond .eq 10, 3) := by decide +kernel
theorem dJ0_coder_7d493_6 : decode cJ0_coder_7d493 6 = .ok (.aload_n 0, 1) := by decide +kernel
theorem dJ0_coder_7d493_7 : decode cJ0_coder_7d493 7 = .ok (.getfield 15, 3) := by decide +kernel
theorem dJ0_coder_7d493_10 : decode cJ0_coder_7d493 10 = .ok (.goto 4, 3) := by decide +kernel
theorem dJ0_coder_7d493_14 : decode cJ0_coder_7d493 14 = .ok (.ireturn, 1) := by decide +kernel
theorem dJ0_length_8abf5_0 : decode cJ0_length_8abf5 0 = .ok (.aload_n 0, 1) := by decide +kernel
theorem dJ0_length_8abf5_1 : decode cJ0_length_8abf5 1 = .ok (.getfield 9, 3) := by decide +kernel
theorem dJ0_length_8abf5_4 : decode cJ0_length_8abf5 4 = .ok (.arraylength, 1) := by decide +kernel
theorem dJ0_length_8abf5_5 : decode cJ0_length_8abf5 5 = .ok (.aload_n 0, 1) := by decide +kernel
theorem dJ0_length_8abf5_6 : decode cJ0_length_8abf5 6 = .ok (.invokevirtual 335, 3) := by decide +kernel
theorem dJ0_length_8abf5_9 : decode cJ0_length_8abf5 9 = .ok (.ishr, 1) := by decide +kernel
theorem dJ0_length_8abf5_10 : decode cJ0_length_8abf5 10 = .ok (.ireturn, 1) := by decide +kernel
theorem dJ0_isLatin1_aae02_0 : decode cJ0_isLatin1_aae02 0 = .ok (.getstatic 38, 3) := by decide +kernel
theorem dJ0_isLatin1_aae02_3 : decode cJ0_isLatin1_aae02 3 = .ok (.ifCond .eq 14, 3) := by decide +kernel
theorem dJ0_isLatin1_aae02_6 : decode cJ0_isLatin1_aae02 6 = .ok (.aload_n 0, 1) := by decide +kernel
theorem dJ0_isLatin1_aae02_7 : decode cJ0_isLatin1_aae02 7 = .ok (.getfield 15, 3) := by decide +kernel
theorem dJ0_isLatin1_aae02_10 : decode cJ0_isLatin1_aae02 10 = .ok (.ifCond .ne 7, 3) := by decide +kernel
theorem dJ0_isLatin1_aae02_13 : decode cJ0_isLatin1_aae02 13 = .ok (.iconst 1, 1) := by decide +kernel
theorem dJ0_isLatin1_aae02_14 : decode cJ0_isLatin1_aae02 14 = .ok (.goto 4, 3) := by decide +kernel
theorem dJ0_isLatin1_aae02_18 : decode cJ0_isLatin1_aae02 18 = .ok (.ireturn, 1) := by decide +kernel
theorem dJ3_checkIndex_8e157_0 : decode cJ3_checkIndex_8e157 0 = .ok (.iload_n 0, 1) := by decide +kernel
theorem dJ3_checkIndex_8e157_1 : decode cJ3_checkIndex_8e157 1 = .ok (.ifCond .lt 8, 3) := by decide +kernel
theorem dJ3_checkIndex_8e157_4 : decode cJ3_checkIndex_8e157 4 = .ok (.iload_n 0, 1) := by decide +kernel
theorem dJ3_checkIndex_8e157_5 : decode cJ3_checkIndex_8e157 5 = .ok (.iload_n 1, 1) := by decide +kernel
theorem dJ3_checkIndex_8e157_6 : decode cJ3_checkIndex_8e157 6 = .ok (.if_icmp .lt 10, 3) := by decide +kernel
theorem dJ3_checkIndex_8e157_16 : decode cJ3_checkIndex_8e157 16 = .ok (.iload_n 0, 1) := by decide +kernel
theorem dJ3_checkIndex_8e157_17 : decode cJ3_checkIndex_8e157 17 = .ok (.ireturn, 1) := by decide +kernel
theorem dJ0_checkIndex_df160_0 : decode cJ0_checkIndex_df160 0 = .ok (.iload_n 0, 1) := by decide +kernel
theorem dJ0_checkIndex_df160_1 : decode cJ0_checkIndex_df160 1 = .ok (.iload_n 1, 1) := by decide +kernel
theorem dJ0_checkIndex_df160_2 : decode cJ0_checkIndex_df160 2 = .ok (.getstatic 1053, 3) := by decide +kernel
theorem dJ0_checkIndex_df160_5 : decode cJ0_checkIndex_df160 5 = .ok (.invokestatic 1059, 3) := by decide +kernel
theorem dJ0_checkIndex_df160_8 : decode cJ0_checkIndex_df160 8 = .ok (.pop, 1) := by decide +kernel
theorem dJ0_checkIndex_df160_9 : decode cJ0_checkIndex_df160 9 = .ok (.return_, 1) := by decide +kernel
theorem dJ1_charAt_3b067_0 : decode cJ1_charAt_3b067 0 = .ok (.iload_n 1, 1) := by decide +kernel
theorem dJ1_charAt_3b067_1 : decode cJ1_charAt_3b067 1 = .ok (.aload_n 0, 1) := by decide +kernel
theorem dJ1_charAt_3b067_2 : decode cJ1_charAt_3b067 2 = .ok (.arraylength, 1) := by decide +kernel
theorem dJ1_charAt_3b067_3 : decode cJ1_charAt_3b067 3 = .ok (.invokestatic 9, 3) := by decide +kernel
theorem dJ1_charAt_3b067_6 : decode cJ1_charAt_3b067 6 = .ok (.aload_n 0, 1) := by decide +kernel
theorem dJ1_charAt_3b067_7 : decode cJ1_charAt_3b067 7 = .ok (.iload_n 1, 1) := by decide +kernel
theorem dJ1_charAt_3b067_8 : decode cJ1_charAt_3b067 8 = .ok (.baload, 1) := by decide +kernel
theorem dJ1_charAt_3b067_9 : decode cJ1_charAt_3b067 9 = .ok (.sipush 255, 3) := by decide +kernel
theorem dJ1_charAt_3b067_12 : decode cJ1_charAt_3b067 12 = .ok (.iand, 1) := by decide +kernel
theorem dJ1_charAt_3b067_13 : decode cJ1_charAt_3b067 13 = .ok (.i2c, 1) := by decide +kernel
theorem dJ1_charAt_3b067_14 : decode cJ1_charAt_3b067 14 = .ok (.ireturn, 1) := by decide +kernel
theorem dJ0_charAt_5068e_0 : decode cJ0_charAt_5068e 0 = .ok (.aload_n 0, 1) := by decide +kernel
theorem dJ0_charAt_5068e_1 : decode cJ0_charAt_5068e 1 = .ok (.invokevirtual 492, 3) := by decide +kernel
theorem dJ0_charAt_5068e_4 : decode cJ0_charAt_5068e 4 = .ok (.ifCond .eq 12, 3) := by decide +kernel
theorem dJ0_charAt_5068e_7 : decode cJ0_charAt_5068e 7 = .ok (.aload_n 0, 1) := by decide +kernel
theorem dJ0_charAt_5068e_8 : decode cJ0_charAt_5068e 8 = .ok (.getfield 9, 3) := by decide +kernel
theorem dJ0_charAt_5068e_11 : decode cJ0_charAt_5068e 11 = .ok (.iload_n 1, 1) := by decide +kernel
theorem dJ0_charAt_5068e_12 : decode cJ0_charAt_5068e 12 = .ok (.invokestatic 495, 3) := by decide +kernel
theorem dJ0_charAt_5068e_15 : decode cJ0_charAt_5068e 15 = .ok (.ireturn, 1) := by decide +kernel
theorem dX12_is_0 : decode cX12_is 0 = .ok (.aload_n 0, 1) := by decide +kernel
theorem dX12_is_1 : decode cX12_is 1 = .ok (.invokevirtual 139, 3) := by decide +kernel
theorem dX12_is_4 : decode cX12_is 4 = .ok (.ifCond .eq 31, 3) := by decide +kernel
theorem dX12_is_35 : decode cX12_is 35 = .ok (.iconst 0, 1) := by decide +kernel
theorem dX12_is_36 : decode cX12_is 36 = .ok (.istore_n 2, 1) := by decide +kernel
theorem dX12_is_37 : decode cX12_is 37 = .ok (.iconst 0, 1) := by decide +kernel
theorem dX12_is_38 : decode cX12_is 38 = .ok (.istore_n 3, 1) := by decide +kernel
theorem dX12_is_39 : decode cX12_is 39 = .ok (.iload_n 3, 1) := by decide +kernel
theorem dX12_is_40 : decode cX12_is 40 = .ok (.aload_n 1, 1) := by decide +kernel
theorem dX12_is_41 : decode cX12_is 41 = .ok (.invokevirtual 143, 3) := by decide +kernel
theorem dX12_is_44 : decode cX12_is 44 = .ok (.if_icmp .ge 38, 3) := by decide +kernel
theorem dX12_is_82 : decode cX12_is 82 = .ok (.iload_n 2, 1) := by decide +kernel
theorem dX12_is_83 : decode cX12_is 83 = .ok (.ireturn, 1) := by decide +kernel
theorem dX12_is_47 : decode cX12_is 47 = .ok (.iload_n 2, 1) := by decide +kernel
theorem dX12_is_48 : decode cX12_is 48 = .ok (.ifCond .eq 34, 3) := by decide +kernel
theorem dX12_is_51 : decode cX12_is 51 = .ok (.aload_n 0, 1) := by decide +kernel
theorem dX12_is_52 : decode cX12_is 52 = .ok (.getfield 24, 3) := by decide +kernel
theorem dX12_is_55 : decode cX12_is 55 = .ok (.aload_n 0, 1) := by decide +kernel
theorem dX12_is_56 : decode cX12_is 56 = .ok (.getfield 117, 3) := by decide +kernel
theorem dX12_is_59 : decode cX12_is 59 = .ok (.iload_n 3, 1) := by decide +kernel
theorem dX12_is_60 : decode cX12_is 60 = .ok (.iadd, 1) := by decide +kernel
theorem dX12_is_61 : decode cX12_is 61 = .ok (.baload, 1) := by decide +kernel
theorem dX12_is_62 : decode cX12_is 62 = .ok (.aload_n 1, 1) := by decide +kernel
theorem dX12_is_63 : decode cX12_is 63 = .ok (.iload_n 3, 1) := by decide +kernel
theorem dX12_is_64 : decode cX12_is 64 = .ok (.invokevirtual 148, 3) := by decide +kernel
theorem dX12_is_67 : decode cX12_is 67 = .ok (.if_icmp .ne 7, 3) := by decide +kernel
theorem dX12_is_74 : decode cX12_is 74 = .ok (.iconst 0, 1) := by decide +kernel
theorem dX12_is_75 : decode cX12_is 75 = .ok (.istore_n 2, 1) := by decide +kernel
theorem dX12_is_76 : decode cX12_is 76 = .ok (.iinc 3 1, 3) := by decide +kernel
theorem dX12_is_79 : decode cX12_is 79 = .ok (.goto (-40), 3) := by decide +kernel
theorem dX12_is_70 : decode cX12_is 70 = .ok (.iconst 1, 1) := by decide +kernel
theorem dX12_is_71 : decode cX12_is 71 = .ok (.goto 4, 3) := by decide +kernel
theorem dX12_is_7 : decode cX12_is 7 = .ok (.aload_n 0, 1) := by decide +kernel
theorem dX12_is_8 : decode cX12_is 8 = .ok (.getfield 120, 3) := by decide +kernel
theorem dX12_is_11 : decode cX12_is 11 = .ok (.iconst 1, 1) := by decide +kernel
theorem dX12_is_12 : decode cX12_is 12 = .ok (.if_icmp .ne 23, 3) := by decide +kernel
theorem dX12_is_15 : decode cX12_is 15 = .ok (.aload_n 0, 1) := by decide +kernel
theorem dX12_is_16 : decode cX12_is 16 = .ok (.getfield 108, 3) := by decide +kernel
theorem dX12_is_19 : decode cX12_is 19 = .ok (.aload_n 0, 1) := by decide +kernel
theorem dX12_is_20 : decode cX12_is 20 = .ok (.getfield 117, 3) := by decide +kernel
theorem dX12_is_23 : decode cX12_is 23 = .ok (.isub, 1) := by decide +kernel
theorem dX12_is_24 : decode cX12_is 24 = .ok (.aload_n 1, 1) := by decide +kernel
theorem dX12_is_25 : decode cX12_is 25 = .ok (.invokevirtual 143, 3) := by decide +kernel
theorem dX12_is_28 : decode cX12_is 28 = .ok (.if_icmp .ne 7, 3) := by decide +kernel
theorem dX12_is_31 : decode cX12_is 31 = .ok (.iconst 1, 1) := by decide +kernel
theorem dX12_is_32 : decode cX12_is 32 = .ok (.goto 4, 3) := by decide +kernel
theorem dX12_takes_0 : decode cX12_takes 0 = .ok (.aload_n 0, 1) := by decide +kernel
theorem dX12_takes_1 : decode cX12_takes 1 = .ok (.aload_n 1, 1) := by decide +kernel
theorem dX12_takes_2 : decode cX12_takes 2 = .ok (.invokevirtual 152, 3) := by decide +kernel
theorem dX12_takes_5 : decode cX12_takes 5 = .ok (.istore_n 2, 1) := by decide +kernel
theorem dX12_takes_6 : decode cX12_takes 6 = .ok (.iload_n 2, 1) := by decide +kernel
theorem dX12_takes_7 : decode cX12_takes 7 = .ok (.ifCond .eq 7, 3) := by decide +kernel
theorem dX12_takes_14 : decode cX12_takes 14 = .ok (.iload_n 2, 1) := by decide +kernel
theorem dX12_takes_15 : decode cX12_takes 15 = .ok (.ireturn, 1) := by decide +kernel
theorem dX12_takes_10 : decode cX12_takes 10 = .ok (.aload_n 0, 1) := by decide +kernel
theorem dX12_takes_11 : decode cX12_takes 11 = .ok (.invokevirtual 156, 3) := by decide +kernel
theorem dX12_needs_0 : decode cX12_needs 0 = .ok (.aload_n 0, 1) := by decide +kernel
theorem dX12_needs_1 : decode cX12_needs 1 = .ok (.aload_n 1, 1) := by decide +kernel
theorem dX12_needs_2 : decode cX12_needs 2 = .ok (.invokevirtual 159, 3) := by decide +kernel
theorem dX12_needs_5 : decode cX12_needs 5 = .ok (.ifCond .ne 8, 3) := by decide +kernel
theorem dX12_needs_13 : decode cX12_needs 13 = .ok (.return_, 1) := by decide +kernel
theorem dX12_needs_8 : decode cX12_needs 8 = .ok (.aload_n 0, 1) := by decide +kernel
theorem dX12_needs_9 : decode cX12_needs 9 = .ok (.iconst 1, 1) := by decide +kernel
theorem dX12_needs_10 : decode cX12_needs 10 = .ok (.invokevirtual 162, 3) := by decide +kernel
theorem dX12_number_0 : decode cX12_number 0 = .ok (.aload_n 0, 1) := by decide +kernel
theorem dX12_number_1 : decode cX12_number 1 = .ok (.invokevirtual 139, 3) := by decide +kernel
theorem dX12_number_4 : decode cX12_number 4 = .ok (.ifCond .eq 16, 3) := by decide +kernel
theorem dX12_number_20 : decode cX12_number 20 = .ok (.aload_n 0, 1) := by decide +kernel
theorem dX12_number_21 : decode cX12_number 21 = .ok (.invokevirtual 139, 3) := by decide +kernel
theorem dX12_number_24 : decode cX12_number 24 = .ok (.ifCond .eq 23, 3) := by decide +kernel
theorem dX12_number_47 : decode cX12_number 47 = .ok (.aload_n 0, 1) := by decide +kernel
theorem dX12_number_48 : decode cX12_number 48 = .ok (.invokevirtual 139, 3) := by decide +kernel
theorem dX12_number_51 : decode cX12_number 51 = .ok (.ifCond .ne 5, 3) := by decide +kernel
theorem dX12_number_56 : decode cX12_number 56 = .ok (.aload_n 0, 1) := by decide +kernel
theorem dX12_number_57 : decode cX12_number 57 = .ok (.getfield 131, 3) := by decide +kernel
theorem dX12_number_60 : decode cX12_number 60 = .ok (.istore_n 3, 1) := by decide +kernel
theorem dX12_number_61 : decode cX12_number 61 = .ok (.aload_n 0, 1) := by decide +kernel
theorem dX12_number_62 : decode cX12_number 62 = .ok (.invokevirtual 156, 3) := by decide +kernel
theorem dX12_number_65 : decode cX12_number 65 = .ok (.iload_n 3, 1) := by decide +kernel
theorem dX12_number_66 : decode cX12_number 66 = .ok (.ireturn, 1) := by decide +kernel
theorem dX12_number_54 : decode cX12_number 54 = .ok (.iconst 0, 1) := by decide +kernel
theorem dX12_number_55 : decode cX12_number 55 = .ok (.ireturn, 1) := by decide +kernel
theorem dX12_number_27 : decode cX12_number 27 = .ok (.aload_n 0, 1) := by decide +kernel
theorem dX12_number_28 : decode cX12_number 28 = .ok (.getfield 131, 3) := by decide +kernel
theorem dX12_number_31 : decode cX12_number 31 = .ok (.i2l, 1) := by decide +kernel
theorem dX12_number_32 : decode cX12_number 32 = .ok (.iload_n 1, 1) := by decide +kernel
theorem dX12_number_33 : decode cX12_number 33 = .ok (.i2l, 1) := by decide +kernel
theorem dX12_number_34 : decode cX12_number 34 = .ok (.iload_n 2, 1) := by decide +kernel
theorem dX12_number_35 : decode cX12_number 35 = .ok (.i2l, 1) := by decide +kernel
theorem dX12_number_36 : decode cX12_number 36 = .ok (.invokestatic 79, 3) := by decide +kernel
theorem dX12_number_39 : decode cX12_number 39 = .ok (.ifCond .ne 8, 3) := by decide +kernel
theorem dX12_number_42 : decode cX12_number 42 = .ok (.aload_n 0, 1) := by decide +kernel
theorem dX12_number_43 : decode cX12_number 43 = .ok (.iconst 2, 1) := by decide +kernel
theorem dX12_number_44 : decode cX12_number 44 = .ok (.invokevirtual 162, 3) := by decide +kernel
theorem dX12_number_7 : decode cX12_number 7 = .ok (.aload_n 0, 1) := by decide +kernel
theorem dX12_number_8 : decode cX12_number 8 = .ok (.getfield 120, 3) := by decide +kernel
theorem dX12_number_11 : decode cX12_number 11 = .ok (.iconst 2, 1) := by decide +kernel
theorem dX12_number_12 : decode cX12_number 12 = .ok (.if_icmp .eq 8, 3) := by decide +kernel
theorem dX12_number_15 : decode cX12_number 15 = .ok (.aload_n 0, 1) := by decide +kernel
theorem dX12_number_16 : decode cX12_number 16 = .ok (.iconst 1, 1) := by decide +kernel
theorem dX12_number_17 : decode cX12_number 17 = .ok (.invokevirtual 162, 3) := by decide +kernel
theorem dX12_told_0 : decode cX12_told 0 = .ok (.aload_n 0, 1) := by decide +kernel
theorem dX12_told_1 : decode cX12_told 1 = .ok (.aload_n 1, 1) := by decide +kernel
theorem dX12_told_2 : decode cX12_told 2 = .ok (.invokevirtual 166, 3) := by decide +kernel
theorem dX12_told_5 : decode cX12_told 5 = .ok (.aload_n 0, 1) := by decide +kernel
theorem dX12_told_6 : decode cX12_told 6 = .ok (.iload_n 2, 1) := by decide +kernel
theorem dX12_told_7 : decode cX12_told 7 = .ok (.iload_n 3, 1) := by decide +kernel
theorem dX12_told_8 : decode cX12_told 8 = .ok (.invokevirtual 170, 3) := by decide +kernel
theorem dX12_told_11 : decode cX12_told 11 = .ok (.ireturn, 1) := by decide +kernel
theorem dX12_ends_0 : decode cX12_ends 0 = .ok (.aload_n 0, 1) := by decide +kernel
theorem dX12_ends_1 : decode cX12_ends 1 = .ok (.invokevirtual 139, 3) := by decide +kernel
theorem dX12_ends_4 : decode cX12_ends 4 = .ok (.ifCond .eq 16, 3) := by decide +kernel
theorem dX12_ends_20 : decode cX12_ends 20 = .ok (.aload_n 0, 1) := by decide +kernel
theorem dX12_ends_21 : decode cX12_ends 21 = .ok (.invokevirtual 139, 3) := by decide +kernel
theorem dX12_ends_24 : decode cX12_ends 24 = .ok (.ifCond .eq 7, 3) := by decide +kernel
theorem dX12_ends_31 : decode cX12_ends 31 = .ok (.return_, 1) := by decide +kernel
theorem dX12_ends_27 : decode cX12_ends 27 = .ok (.aload_n 0, 1) := by decide +kernel
theorem dX12_ends_28 : decode cX12_ends 28 = .ok (.invokevirtual 156, 3) := by decide +kernel
theorem dX12_ends_7 : decode cX12_ends 7 = .ok (.aload_n 0, 1) := by decide +kernel
theorem dX12_ends_8 : decode cX12_ends 8 = .ok (.getfield 120, 3) := by decide +kernel
theorem dX12_ends_11 : decode cX12_ends 11 = .ok (.iconst 3, 1) := by decide +kernel
theorem dX12_ends_12 : decode cX12_ends 12 = .ok (.if_icmp .eq 8, 3) := by decide +kernel
theorem dX12_ends_15 : decode cX12_ends 15 = .ok (.aload_n 0, 1) := by decide +kernel
theorem dX12_ends_16 : decode cX12_ends 16 = .ok (.iconst 1, 1) := by decide +kernel
theorem dX12_ends_17 : decode cX12_ends 17 = .ok (.invokevirtual 162, 3) := by decide +kernel
theorem dX12_endsAll_0 : decode cX12_endsAll 0 = .ok (.aload_n 0, 1) := by decide +kernel
theorem dX12_endsAll_1 : decode cX12_endsAll 1 = .ok (.invokevirtual 139, 3) := by decide +kernel
theorem dX12_endsAll_4 : decode cX12_endsAll 4 = .ok (.ifCond .eq 15, 3) := by decide +kernel
theorem dX12_endsAll_19 : decode cX12_endsAll 19 = .ok (.return_, 1) := by decide +kernel
theorem dX12_endsAll_7 : decode cX12_endsAll 7 = .ok (.aload_n 0, 1) := by decide +kernel
theorem dX12_endsAll_8 : decode cX12_endsAll 8 = .ok (.getfield 120, 3) := by decide +kernel
theorem dX12_endsAll_11 : decode cX12_endsAll 11 = .ok (.ifCond .eq 8, 3) := by decide +kernel
theorem dX12_endsAll_14 : decode cX12_endsAll 14 = .ok (.aload_n 0, 1) := by decide +kernel
theorem dX12_endsAll_15 : decode cX12_endsAll 15 = .ok (.iconst 1, 1) := by decide +kernel
theorem dX12_endsAll_16 : decode cX12_endsAll 16 = .ok (.invokevirtual 162, 3) := by decide +kernel
theorem dX12_feed_0 : decode cX12_feed 0 = .ok (.aload_n 0, 1) := by decide +kernel
theorem dX12_feed_1 : decode cX12_feed 1 = .ok (.getfield 102, 3) := by decide +kernel
theorem dX12_feed_4 : decode cX12_feed 4 = .ok (.bipush 20, 2) := by decide +kernel
theorem dX12_feed_6 : decode cX12_feed 6 = .ok (.iadd, 1) := by decide +kernel
theorem dX12_feed_7 : decode cX12_feed 7 = .ok (.sipush 600, 3) := by decide +kernel
theorem dX12_feed_10 : decode cX12_feed 10 = .ok (.if_icmp .le 5, 3) := by decide +kernel
theorem dX12_feed_15 : decode cX12_feed 15 = .ok (.aload_n 0, 1) := by decide +kernel
theorem dX12_feed_16 : decode cX12_feed 16 = .ok (.getfield 28, 3) := by decide +kernel
theorem dX12_feed_19 : decode cX12_feed 19 = .ok (.iconst 0, 1) := by decide +kernel
theorem dX12_feed_20 : decode cX12_feed 20 = .ok (.iload_n 1, 1) := by decide +kernel
theorem dX12_feed_21 : decode cX12_feed 21 = .ok (.iastore, 1) := by decide +kernel
theorem dX12_feed_22 : decode cX12_feed 22 = .ok (.aload_n 0, 1) := by decide +kernel
theorem dX12_feed_23 : decode cX12_feed 23 = .ok (.getfield 28, 3) := by decide +kernel
theorem dX12_feed_26 : decode cX12_feed 26 = .ok (.iconst 1, 1) := by decide +kernel
theorem dX12_feed_27 : decode cX12_feed 27 = .ok (.iload_n 2, 1) := by decide +kernel
theorem dX12_feed_28 : decode cX12_feed 28 = .ok (.iastore, 1) := by decide +kernel
theorem dX12_feed_29 : decode cX12_feed 29 = .ok (.aload_n 0, 1) := by decide +kernel
theorem dX12_feed_30 : decode cX12_feed 30 = .ok (.getfield 28, 3) := by decide +kernel
theorem dX12_feed_33 : decode cX12_feed 33 = .ok (.iconst 2, 1) := by decide +kernel
theorem dX12_feed_34 : decode cX12_feed 34 = .ok (.iload_n 3, 1) := by decide +kernel
theorem dX12_feed_35 : decode cX12_feed 35 = .ok (.iastore, 1) := by decide +kernel
theorem dX12_feed_36 : decode cX12_feed 36 = .ok (.aload_n 0, 1) := by decide +kernel
theorem dX12_feed_37 : decode cX12_feed 37 = .ok (.getfield 28, 3) := by decide +kernel
theorem dX12_feed_40 : decode cX12_feed 40 = .ok (.iconst 3, 1) := by decide +kernel
theorem dX12_feed_41 : decode cX12_feed 41 = .ok (.iload 4, 2) := by decide +kernel
theorem dX12_feed_43 : decode cX12_feed 43 = .ok (.iastore, 1) := by decide +kernel
theorem dX12_feed_44 : decode cX12_feed 44 = .ok (.aload_n 0, 1) := by decide +kernel
theorem dX12_feed_45 : decode cX12_feed 45 = .ok (.getfield 28, 3) := by decide +kernel
theorem dX12_feed_48 : decode cX12_feed 48 = .ok (.iconst 4, 1) := by decide +kernel
theorem dX12_feed_49 : decode cX12_feed 49 = .ok (.iload 5, 2) := by decide +kernel
theorem dX12_feed_51 : decode cX12_feed 51 = .ok (.iastore, 1) := by decide +kernel
theorem dX12_feed_52 : decode cX12_feed 52 = .ok (.iconst 0, 1) := by decide +kernel
theorem dX12_feed_53 : decode cX12_feed 53 = .ok (.istore 6, 2) := by decide +kernel
theorem dX12_feed_55 : decode cX12_feed 55 = .ok (.iload 6, 2) := by decide +kernel
theorem dX12_feed_57 : decode cX12_feed 57 = .ok (.bipush 20, 2) := by decide +kernel
theorem dX12_feed_59 : decode cX12_feed 59 = .ok (.if_icmp .ge 42, 3) := by decide +kernel
theorem dX12_feed_101 : decode cX12_feed 101 = .ok (.aload_n 0, 1) := by decide +kernel
theorem dX12_feed_102 : decode cX12_feed 102 = .ok (.dup, 1) := by decide +kernel
theorem dX12_feed_103 : decode cX12_feed 103 = .ok (.getfield 102, 3) := by decide +kernel
theorem dX12_feed_106 : decode cX12_feed 106 = .ok (.bipush 20, 2) := by decide +kernel
theorem dX12_feed_108 : decode cX12_feed 108 = .ok (.iadd, 1) := by decide +kernel
theorem dX12_feed_109 : decode cX12_feed 109 = .ok (.putfield 102, 3) := by decide +kernel
theorem dX12_feed_112 : decode cX12_feed 112 = .ok (.aload_n 0, 1) := by decide +kernel
theorem dX12_feed_113 : decode cX12_feed 113 = .ok (.getfield 102, 3) := by decide +kernel
theorem dX12_feed_116 : decode cX12_feed 116 = .ok (.ireturn, 1) := by decide +kernel
theorem dX12_feed_62 : decode cX12_feed 62 = .ok (.aload_n 0, 1) := by decide +kernel
theorem dX12_feed_63 : decode cX12_feed 63 = .ok (.getfield 24, 3) := by decide +kernel
theorem dX12_feed_66 : decode cX12_feed 66 = .ok (.aload_n 0, 1) := by decide +kernel
theorem dX12_feed_67 : decode cX12_feed 67 = .ok (.getfield 102, 3) := by decide +kernel
theorem dX12_feed_70 : decode cX12_feed 70 = .ok (.iload 6, 2) := by decide +kernel
theorem dX12_feed_72 : decode cX12_feed 72 = .ok (.iadd, 1) := by decide +kernel
theorem dX12_feed_73 : decode cX12_feed 73 = .ok (.aload_n 0, 1) := by decide +kernel
theorem dX12_feed_74 : decode cX12_feed 74 = .ok (.getfield 28, 3) := by decide +kernel
theorem dX12_feed_77 : decode cX12_feed 77 = .ok (.iload 6, 2) := by decide +kernel
theorem dX12_feed_79 : decode cX12_feed 79 = .ok (.iconst 4, 1) := by decide +kernel
theorem dX12_feed_80 : decode cX12_feed 80 = .ok (.idiv, 1) := by decide +kernel
theorem dX12_feed_81 : decode cX12_feed 81 = .ok (.iaload, 1) := by decide +kernel
theorem dX12_feed_82 : decode cX12_feed 82 = .ok (.bipush 24, 2) := by decide +kernel
theorem dX12_feed_84 : decode cX12_feed 84 = .ok (.bipush 8, 2) := by decide +kernel
theorem dX12_feed_86 : decode cX12_feed 86 = .ok (.iload 6, 2) := by decide +kernel
theorem dX12_feed_88 : decode cX12_feed 88 = .ok (.iconst 4, 1) := by decide +kernel
theorem dX12_feed_89 : decode cX12_feed 89 = .ok (.irem, 1) := by decide +kernel
theorem dX12_feed_90 : decode cX12_feed 90 = .ok (.imul, 1) := by decide +kernel
theorem dX12_feed_91 : decode cX12_feed 91 = .ok (.isub, 1) := by decide +kernel
theorem dX12_feed_92 : decode cX12_feed 92 = .ok (.ishr, 1) := by decide +kernel
theorem dX12_feed_93 : decode cX12_feed 93 = .ok (.i2b, 1) := by decide +kernel
theorem dX12_feed_94 : decode cX12_feed 94 = .ok (.bastore, 1) := by decide +kernel
theorem dX12_feed_95 : decode cX12_feed 95 = .ok (.iinc 6 1, 3) := by decide +kernel
theorem dX12_feed_98 : decode cX12_feed 98 = .ok (.goto (-43), 3) := by decide +kernel
theorem dX12_feed_13 : decode cX12_feed 13 = .ok (.iconst (-1), 1) := by decide +kernel
theorem dX12_feed_14 : decode cX12_feed 14 = .ok (.ireturn, 1) := by decide +kernel
theorem dX12_end_0 : decode cX12_end 0 = .ok (.iload_n 1, 1) := by decide +kernel
theorem dX12_end_1 : decode cX12_end 1 = .ok (.i2l, 1) := by decide +kernel
theorem dX12_end_2 : decode cX12_end 2 = .ok (.lconst 0, 1) := by decide +kernel
theorem dX12_end_3 : decode cX12_end 3 = .ok (.aload_n 0, 1) := by decide +kernel
theorem dX12_end_4 : decode cX12_end 4 = .ok (.getfield 102, 3) := by decide +kernel
theorem dX12_end_7 : decode cX12_end 7 = .ok (.i2l, 1) := by decide +kernel
theorem dX12_end_8 : decode cX12_end 8 = .ok (.invokestatic 79, 3) := by decide +kernel
theorem dX12_end_11 : decode cX12_end 11 = .ok (.ifCond .ne 5, 3) := by decide +kernel
theorem dX12_end_16 : decode cX12_end 16 = .ok (.aload_n 0, 1) := by decide +kernel
theorem dX12_end_17 : decode cX12_end 17 = .ok (.iload_n 1, 1) := by decide +kernel
theorem dX12_end_18 : decode cX12_end 18 = .ok (.putfield 102, 3) := by decide +kernel
theorem dX12_end_21 : decode cX12_end 21 = .ok (.iload_n 1, 1) := by decide +kernel
theorem dX12_end_22 : decode cX12_end 22 = .ok (.ireturn, 1) := by decide +kernel
theorem dX12_end_14 : decode cX12_end 14 = .ok (.iconst (-1), 1) := by decide +kernel
theorem dX12_end_15 : decode cX12_end 15 = .ok (.ireturn, 1) := by decide +kernel
theorem dX12_fault_0 : decode cX12_fault 0 = .ok (.iload_n 1, 1) := by decide +kernel
theorem dX12_fault_1 : decode cX12_fault 1 = .ok (.ifCond .ne 10, 3) := by decide +kernel
theorem dX12_fault_11 : decode cX12_fault 11 = .ok (.iload_n 1, 1) := by decide +kernel
theorem dX12_fault_12 : decode cX12_fault 12 = .ok (.iconst 1, 1) := by decide +kernel
theorem dX12_fault_13 : decode cX12_fault 13 = .ok (.if_icmp .ne 10, 3) := by decide +kernel
theorem dX12_fault_23 : decode cX12_fault 23 = .ok (.iconst (-1), 1) := by decide +kernel
theorem dX12_fault_24 : decode cX12_fault 24 = .ok (.ireturn, 1) := by decide +kernel
theorem dX12_fault_16 : decode cX12_fault 16 = .ok (.aload_n 0, 1) := by decide +kernel
theorem dX12_fault_17 : decode cX12_fault 17 = .ok (.getfield 31, 3) := by decide +kernel
theorem dX12_fault_20 : decode cX12_fault 20 = .ok (.goto 4, 3) := by decide +kernel
theorem dX12_fault_4 : decode cX12_fault 4 = .ok (.aload_n 0, 1) := by decide +kernel
theorem dX12_fault_5 : decode cX12_fault 5 = .ok (.getfield 111, 3) := by decide +kernel
theorem dX12_fault_8 : decode cX12_fault 8 = .ok (.goto 16, 3) := by decide +kernel
theorem dX12_signOf_0 : decode cX12_signOf 0 = .ok (.iload_n 0, 1) := by decide +kernel
theorem dX12_signOf_1 : decode cX12_signOf 1 = .ok (.bipush 107, 2) := by decide +kernel
theorem dX12_signOf_3 : decode cX12_signOf 3 = .ok (.if_icmp .ne 7, 3) := by decide +kernel
theorem dX12_signOf_10 : decode cX12_signOf 10 = .ok (.iload_n 0, 1) := by decide +kernel
theorem dX12_signOf_11 : decode cX12_signOf 11 = .ok (.bipush 112, 2) := by decide +kernel
theorem dX12_signOf_13 : decode cX12_signOf 13 = .ok (.if_icmp .ne 7, 3) := by decide +kernel
theorem dX12_signOf_20 : decode cX12_signOf 20 = .ok (.iload_n 0, 1) := by decide +kernel
theorem dX12_signOf_21 : decode cX12_signOf 21 = .ok (.bipush 102, 2) := by decide +kernel
theorem dX12_signOf_23 : decode cX12_signOf 23 = .ok (.if_icmp .ne 7, 3) := by decide +kernel
theorem dX12_signOf_30 : decode cX12_signOf 30 = .ok (.iload_n 0, 1) := by decide +kernel
theorem dX12_signOf_31 : decode cX12_signOf 31 = .ok (.bipush 104, 2) := by decide +kernel
theorem dX12_signOf_33 : decode cX12_signOf 33 = .ok (.if_icmp .ne 7, 3) := by decide +kernel
theorem dX12_signOf_40 : decode cX12_signOf 40 = .ok (.iload_n 0, 1) := by decide +kernel
theorem dX12_signOf_41 : decode cX12_signOf 41 = .ok (.bipush 109, 2) := by decide +kernel
theorem dX12_signOf_43 : decode cX12_signOf 43 = .ok (.if_icmp .ne 7, 3) := by decide +kernel
theorem dX12_signOf_50 : decode cX12_signOf 50 = .ok (.iconst (-1), 1) := by decide +kernel
theorem dX12_signOf_51 : decode cX12_signOf 51 = .ok (.ireturn, 1) := by decide +kernel
theorem dX12_signOf_46 : decode cX12_signOf 46 = .ok (.iconst 4, 1) := by decide +kernel
theorem dX12_signOf_47 : decode cX12_signOf 47 = .ok (.goto 4, 3) := by decide +kernel
theorem dX12_signOf_36 : decode cX12_signOf 36 = .ok (.iconst 3, 1) := by decide +kernel
theorem dX12_signOf_37 : decode cX12_signOf 37 = .ok (.goto 14, 3) := by decide +kernel
theorem dX12_signOf_26 : decode cX12_signOf 26 = .ok (.iconst 2, 1) := by decide +kernel
theorem dX12_signOf_27 : decode cX12_signOf 27 = .ok (.goto 24, 3) := by decide +kernel
theorem dX12_signOf_16 : decode cX12_signOf 16 = .ok (.iconst 1, 1) := by decide +kernel
theorem dX12_signOf_17 : decode cX12_signOf 17 = .ok (.goto 34, 3) := by decide +kernel
theorem dX12_signOf_6 : decode cX12_signOf 6 = .ok (.iconst 0, 1) := by decide +kernel
theorem dX12_signOf_7 : decode cX12_signOf 7 = .ok (.goto 44, 3) := by decide +kernel
theorem dX12_sortsHere_0 : decode cX12_sortsHere 0 = .ok (.iconst 0, 1) := by decide +kernel
theorem dX12_sortsHere_1 : decode cX12_sortsHere 1 = .ok (.istore_n 1, 1) := by decide +kernel
theorem dX12_sortsHere_2 : decode cX12_sortsHere 2 = .ok (.aload_n 0, 1) := by decide +kernel
theorem dX12_sortsHere_3 : decode cX12_sortsHere 3 = .ok (.getfield 120, 3) := by decide +kernel
theorem dX12_sortsHere_6 : decode cX12_sortsHere 6 = .ok (.iconst 1, 1) := by decide +kernel
theorem dX12_sortsHere_7 : decode cX12_sortsHere 7 = .ok (.if_icmp .eq 5, 3) := by decide +kernel
theorem dX12_sortsHere_12 : decode cX12_sortsHere 12 = .ok (.aload_n 0, 1) := by decide +kernel
theorem dX12_sortsHere_13 : decode cX12_sortsHere 13 = .ok (.getfield 117, 3) := by decide +kernel
theorem dX12_sortsHere_16 : decode cX12_sortsHere 16 = .ok (.istore_n 2, 1) := by decide +kernel
theorem dX12_sortsHere_17 : decode cX12_sortsHere 17 = .ok (.iload_n 2, 1) := by decide +kernel
theorem dX12_sortsHere_18 : decode cX12_sortsHere 18 = .ok (.aload_n 0, 1) := by decide +kernel
theorem dX12_sortsHere_19 : decode cX12_sortsHere 19 = .ok (.getfield 108, 3) := by decide +kernel
theorem dX12_sortsHere_22 : decode cX12_sortsHere 22 = .ok (.if_icmp .ge 41, 3) := by decide +kernel
theorem dX12_sortsHere_63 : decode cX12_sortsHere 63 = .ok (.iload_n 1, 1) := by decide +kernel
theorem dX12_sortsHere_64 : decode cX12_sortsHere 64 = .ok (.ireturn, 1) := by decide +kernel
theorem dX12_sortsHere_25 : decode cX12_sortsHere 25 = .ok (.aload_n 0, 1) := by decide +kernel
theorem dX12_sortsHere_26 : decode cX12_sortsHere 26 = .ok (.getfield 24, 3) := by decide +kernel
theorem dX12_sortsHere_29 : decode cX12_sortsHere 29 = .ok (.iload_n 2, 1) := by decide +kernel
theorem dX12_sortsHere_30 : decode cX12_sortsHere 30 = .ok (.baload, 1) := by decide +kernel
theorem dX12_sortsHere_31 : decode cX12_sortsHere 31 = .ok (.invokestatic 175, 3) := by decide +kernel
theorem dX12_sortsHere_34 : decode cX12_sortsHere 34 = .ok (.istore_n 3, 1) := by decide +kernel
theorem dX12_sortsHere_35 : decode cX12_sortsHere 35 = .ok (.iload_n 3, 1) := by decide +kernel
theorem dX12_sortsHere_36 : decode cX12_sortsHere 36 = .ok (.iconst 2, 1) := by decide +kernel
theorem dX12_sortsHere_37 : decode cX12_sortsHere 37 = .ok (.if_icmp .lt 12, 3) := by decide +kernel
theorem dX12_sortsHere_49 : decode cX12_sortsHere 49 = .ok (.iconst (-1), 1) := by decide +kernel
theorem dX12_sortsHere_50 : decode cX12_sortsHere 50 = .ok (.ireturn, 1) := by decide +kernel
theorem dX12_sortsHere_40 : decode cX12_sortsHere 40 = .ok (.iload_n 1, 1) := by decide +kernel
theorem dX12_sortsHere_41 : decode cX12_sortsHere 41 = .ok (.iload_n 3, 1) := by decide +kernel
theorem dX12_sortsHere_42 : decode cX12_sortsHere 42 = .ok (.ishr, 1) := by decide +kernel
theorem dX12_sortsHere_43 : decode cX12_sortsHere 43 = .ok (.iconst 1, 1) := by decide +kernel
theorem dX12_sortsHere_44 : decode cX12_sortsHere 44 = .ok (.iand, 1) := by decide +kernel
theorem dX12_sortsHere_45 : decode cX12_sortsHere 45 = .ok (.iconst 1, 1) := by decide +kernel
theorem dX12_sortsHere_46 : decode cX12_sortsHere 46 = .ok (.if_icmp .ne 5, 3) := by decide +kernel
theorem dX12_sortsHere_51 : decode cX12_sortsHere 51 = .ok (.iload_n 1, 1) := by decide +kernel
theorem dX12_sortsHere_52 : decode cX12_sortsHere 52 = .ok (.iconst 1, 1) := by decide +kernel
theorem dX12_sortsHere_53 : decode cX12_sortsHere 53 = .ok (.iload_n 3, 1) := by decide +kernel
theorem dX12_sortsHere_54 : decode cX12_sortsHere 54 = .ok (.ishl, 1) := by decide +kernel
theorem dX12_sortsHere_55 : decode cX12_sortsHere 55 = .ok (.ior, 1) := by decide +kernel
theorem dX12_sortsHere_56 : decode cX12_sortsHere 56 = .ok (.istore_n 1, 1) := by decide +kernel
theorem dX12_sortsHere_57 : decode cX12_sortsHere 57 = .ok (.iinc 2 1, 3) := by decide +kernel
theorem dX12_sortsHere_60 : decode cX12_sortsHere 60 = .ok (.goto (-43), 3) := by decide +kernel
theorem dX12_sortsHere_10 : decode cX12_sortsHere 10 = .ok (.iconst (-1), 1) := by decide +kernel
theorem dX12_sortsHere_11 : decode cX12_sortsHere 11 = .ok (.ireturn, 1) := by decide +kernel
theorem dX12_keeps_0 : decode cX12_keeps 0 = .ok (.iload_n 1, 1) := by decide +kernel
theorem dX12_keeps_1 : decode cX12_keeps 1 = .ok (.istore_n 3, 1) := by decide +kernel
theorem dX12_keeps_2 : decode cX12_keeps 2 = .ok (.iload_n 3, 1) := by decide +kernel
theorem dX12_keeps_3 : decode cX12_keeps 3 = .ok (.iload_n 2, 1) := by decide +kernel
theorem dX12_keeps_4 : decode cX12_keeps 4 = .ok (.if_icmp .ge 21, 3) := by decide +kernel
theorem dX12_keeps_25 : decode cX12_keeps 25 = .ok (.return_, 1) := by decide +kernel
theorem dX12_keeps_7 : decode cX12_keeps 7 = .ok (.aload_n 0, 1) := by decide +kernel
theorem dX12_keeps_8 : decode cX12_keeps 8 = .ok (.getfield 13, 3) := by decide +kernel
theorem dX12_keeps_11 : decode cX12_keeps 11 = .ok (.iload_n 3, 1) := by decide +kernel
theorem dX12_keeps_12 : decode cX12_keeps 12 = .ok (.aload_n 0, 1) := by decide +kernel
theorem dX12_keeps_13 : decode cX12_keeps 13 = .ok (.getfield 34, 3) := by decide +kernel
theorem dX12_keeps_16 : decode cX12_keeps 16 = .ok (.iload_n 3, 1) := by decide +kernel
theorem dX12_keeps_17 : decode cX12_keeps 17 = .ok (.iaload, 1) := by decide +kernel
theorem dX12_keeps_18 : decode cX12_keeps 18 = .ok (.iastore, 1) := by decide +kernel
theorem dX12_keeps_19 : decode cX12_keeps 19 = .ok (.iinc 3 1, 3) := by decide +kernel
theorem dX12_keeps_22 : decode cX12_keeps 22 = .ok (.goto (-20), 3) := by decide +kernel
theorem dX12_clears_0 : decode cX12_clears 0 = .ok (.iload_n 1, 1) := by decide +kernel
theorem dX12_clears_1 : decode cX12_clears 1 = .ok (.istore_n 3, 1) := by decide +kernel
theorem dX12_clears_2 : decode cX12_clears 2 = .ok (.iload_n 3, 1) := by decide +kernel
theorem dX12_clears_3 : decode cX12_clears 3 = .ok (.iload_n 2, 1) := by decide +kernel
theorem dX12_clears_4 : decode cX12_clears 4 = .ok (.if_icmp .ge 16, 3) := by decide +kernel
theorem dX12_clears_20 : decode cX12_clears 20 = .ok (.return_, 1) := by decide +kernel
theorem dX12_clears_7 : decode cX12_clears 7 = .ok (.aload_n 0, 1) := by decide +kernel
theorem dX12_clears_8 : decode cX12_clears 8 = .ok (.getfield 34, 3) := by decide +kernel
theorem dX12_clears_11 : decode cX12_clears 11 = .ok (.iload_n 3, 1) := by decide +kernel
theorem dX12_clears_12 : decode cX12_clears 12 = .ok (.iconst 0, 1) := by decide +kernel
theorem dX12_clears_13 : decode cX12_clears 13 = .ok (.iastore, 1) := by decide +kernel
theorem dX12_clears_14 : decode cX12_clears 14 = .ok (.iinc 3 1, 3) := by decide +kernel
theorem dX12_clears_17 : decode cX12_clears 17 = .ok (.goto (-15), 3) := by decide +kernel
theorem dX12_readWords_0 : decode cX12_readWords 0 = .ok (.aload_n 0, 1) := by decide +kernel
theorem dX12_readWords_1 : decode cX12_readWords 1 = .ok (.invokevirtual 181, 3) := by decide +kernel
theorem dX12_readWords_4 : decode cX12_readWords 4 = .ok (.aload_n 0, 1) := by decide +kernel
theorem dX12_readWords_5 : decode cX12_readWords 5 = .ok (.iconst 0, 1) := by decide +kernel
theorem dX12_readWords_6 : decode cX12_readWords 6 = .ok (.putfield 117, 3) := by decide +kernel
theorem dX12_readWords_9 : decode cX12_readWords 9 = .ok (.aload_n 0, 1) := by decide +kernel
theorem dX12_readWords_10 : decode cX12_readWords 10 = .ok (.invokevirtual 139, 3) := by decide +kernel
theorem dX12_readWords_13 : decode cX12_readWords 13 = .ok (.ifCond .eq 96, 3) := by decide +kernel
theorem dX12_readWords_109 : decode cX12_readWords 109 = .ok (.aload_n 0, 1) := by decide +kernel
theorem dX12_readWords_110 : decode cX12_readWords 110 = .ok (.getfield 117, 3) := by decide +kernel
theorem dX12_readWords_113 : decode cX12_readWords 113 = .ok (.ifCond .ne 8, 3) := by decide +kernel
theorem dX12_readWords_121 : decode cX12_readWords 121 = .ok (.aload_n 0, 1) := by decide +kernel
theorem dX12_readWords_122 : decode cX12_readWords 122 = .ok (.invokevirtual 139, 3) := by decide +kernel
theorem dX12_readWords_125 : decode cX12_readWords 125 = .ok (.ifCond .eq 10, 3) := by decide +kernel
theorem dX12_readWords_135 : decode cX12_readWords 135 = .ok (.iconst (-1), 1) := by decide +kernel
theorem dX12_readWords_136 : decode cX12_readWords 136 = .ok (.ireturn, 1) := by decide +kernel
theorem dX12_readWords_128 : decode cX12_readWords 128 = .ok (.aload_n 0, 1) := by decide +kernel
theorem dX12_readWords_129 : decode cX12_readWords 129 = .ok (.getfield 117, 3) := by decide +kernel
theorem dX12_readWords_132 : decode cX12_readWords 132 = .ok (.goto 4, 3) := by decide +kernel
theorem dX12_readWords_116 : decode cX12_readWords 116 = .ok (.aload_n 0, 1) := by decide +kernel
theorem dX12_readWords_117 : decode cX12_readWords 117 = .ok (.iconst 1, 1) := by decide +kernel
theorem dX12_readWords_118 : decode cX12_readWords 118 = .ok (.invokevirtual 162, 3) := by decide +kernel
theorem dX12_readWords_16 : decode cX12_readWords 16 = .ok (.aload_n 0, 1) := by decide +kernel
theorem dX12_readWords_17 : decode cX12_readWords 17 = .ok (.aload_n 0, 1) := by decide +kernel
theorem dX12_readWords_18 : decode cX12_readWords 18 = .ok (.getfield 117, 3) := by decide +kernel
theorem dX12_readWords_21 : decode cX12_readWords 21 = .ok (.invokevirtual 114, 3) := by decide +kernel
theorem dX12_readWords_24 : decode cX12_readWords 24 = .ok (.iconst (-1), 1) := by decide +kernel
theorem dX12_readWords_25 : decode cX12_readWords 25 = .ok (.if_icmp .eq 84, 3) := by decide +kernel
theorem dX12_readWords_28 : decode cX12_readWords 28 = .ok (.aload_n 0, 1) := by decide +kernel
theorem dX12_readWords_29 : decode cX12_readWords 29 = .ok (.aload_n 0, 1) := by decide +kernel
theorem dX12_readWords_30 : decode cX12_readWords 30 = .ok (.getfield 117, 3) := by decide +kernel
theorem dX12_readWords_33 : decode cX12_readWords 33 = .ok (.invokevirtual 114, 3) := by decide +kernel
theorem dX12_readWords_36 : decode cX12_readWords 36 = .ok (.istore_n 1, 1) := by decide +kernel
theorem dX12_readWords_37 : decode cX12_readWords 37 = .ok (.iload_n 1, 1) := by decide +kernel
theorem dX12_readWords_38 : decode cX12_readWords 38 = .ok (.bipush 32, 2) := by decide +kernel
theorem dX12_readWords_40 : decode cX12_readWords 40 = .ok (.if_icmp .eq 22, 3) := by decide +kernel
theorem dX12_readWords_62 : decode cX12_readWords 62 = .ok (.aload_n 0, 1) := by decide +kernel
theorem dX12_readWords_63 : decode cX12_readWords 63 = .ok (.invokevirtual 139, 3) := by decide +kernel
theorem dX12_readWords_66 : decode cX12_readWords 66 = .ok (.ifCond .ne 5, 3) := by decide +kernel
theorem dX12_readWords_71 : decode cX12_readWords 71 = .ok (.aload_n 0, 1) := by decide +kernel
theorem dX12_readWords_72 : decode cX12_readWords 72 = .ok (.getfield 43, 3) := by decide +kernel
theorem dX12_readWords_75 : decode cX12_readWords 75 = .ok (.aload_n 0, 1) := by decide +kernel
theorem dX12_readWords_76 : decode cX12_readWords 76 = .ok (.getfield 117, 3) := by decide +kernel
theorem dX12_readWords_79 : decode cX12_readWords 79 = .ok (.iload_n 1, 1) := by decide +kernel
theorem dX12_readWords_80 : decode cX12_readWords 80 = .ok (.bipush 32, 2) := by decide +kernel
theorem dX12_readWords_82 : decode cX12_readWords 82 = .ok (.if_icmp .ne 7, 3) := by decide +kernel
theorem dX12_readWords_85 : decode cX12_readWords 85 = .ok (.iconst 0, 1) := by decide +kernel
theorem dX12_readWords_86 : decode cX12_readWords 86 = .ok (.goto 9, 3) := by decide +kernel
theorem dX12_readWords_95 : decode cX12_readWords 95 = .ok (.iastore, 1) := by decide +kernel
theorem dX12_readWords_96 : decode cX12_readWords 96 = .ok (.aload_n 0, 1) := by decide +kernel
theorem dX12_readWords_97 : decode cX12_readWords 97 = .ok (.dup, 1) := by decide +kernel
theorem dX12_readWords_98 : decode cX12_readWords 98 = .ok (.getfield 117, 3) := by decide +kernel
theorem dX12_readWords_101 : decode cX12_readWords 101 = .ok (.iconst 1, 1) := by decide +kernel
theorem dX12_readWords_102 : decode cX12_readWords 102 = .ok (.iadd, 1) := by decide +kernel
theorem dX12_readWords_103 : decode cX12_readWords 103 = .ok (.putfield 117, 3) := by decide +kernel
theorem dX12_readWords_106 : decode cX12_readWords 106 = .ok (.goto (-97), 3) := by decide +kernel
theorem dX12_readWords_69 : decode cX12_readWords 69 = .ok (.iconst (-1), 1) := by decide +kernel
theorem dX12_readWords_70 : decode cX12_readWords 70 = .ok (.ireturn, 1) := by decide +kernel
theorem dX12_readWords_43 : decode cX12_readWords 43 = .ok (.iload_n 1, 1) := by decide +kernel
theorem dX12_readWords_44 : decode cX12_readWords 44 = .ok (.i2l, 1) := by decide +kernel
theorem dX12_readWords_45 : decode cX12_readWords 45 = .ok (.ldc2_w 123, 3) := by decide +kernel
theorem dX12_readWords_48 : decode cX12_readWords 48 = .ok (.ldc2_w 125, 3) := by decide +kernel
theorem dX12_readWords_51 : decode cX12_readWords 51 = .ok (.invokestatic 79, 3) := by decide +kernel
theorem dX12_readWords_54 : decode cX12_readWords 54 = .ok (.ifCond .ne 8, 3) := by decide +kernel
theorem dX12_readWords_89 : decode cX12_readWords 89 = .ok (.iload_n 1, 1) := by decide +kernel
theorem dX12_readWords_90 : decode cX12_readWords 90 = .ok (.bipush 97, 2) := by decide +kernel
theorem dX12_readWords_92 : decode cX12_readWords 92 = .ok (.isub, 1) := by decide +kernel
theorem dX12_readWords_93 : decode cX12_readWords 93 = .ok (.iconst 1, 1) := by decide +kernel
theorem dX12_readWords_94 : decode cX12_readWords 94 = .ok (.iadd, 1) := by decide +kernel
theorem dX12_readWords_57 : decode cX12_readWords 57 = .ok (.aload_n 0, 1) := by decide +kernel
theorem dX12_readWords_58 : decode cX12_readWords 58 = .ok (.iconst 1, 1) := by decide +kernel
theorem dX12_readWords_59 : decode cX12_readWords 59 = .ok (.invokevirtual 162, 3) := by decide +kernel
theorem dX12_isCloth_0 : decode cX12_isCloth 0 = .ok (.iload_n 0, 1) := by decide +kernel
theorem dX12_isCloth_1 : decode cX12_isCloth 1 = .ok (.i2l, 1) := by decide +kernel
theorem dX12_isCloth_2 : decode cX12_isCloth 2 = .ok (.lconst 0, 1) := by decide +kernel
theorem dX12_isCloth_3 : decode cX12_isCloth 3 = .ok (.ldc2_w 90, 3) := by decide +kernel
theorem dX12_isCloth_6 : decode cX12_isCloth 6 = .ok (.invokestatic 79, 3) := by decide +kernel
theorem dX12_isCloth_9 : decode cX12_isCloth 9 = .ok (.ireturn, 1) := by decide +kernel
theorem dX12_isWay_0 : decode cX12_isWay 0 = .ok (.iload_n 0, 1) := by decide +kernel
theorem dX12_isWay_1 : decode cX12_isWay 1 = .ok (.i2l, 1) := by decide +kernel
theorem dX12_isWay_2 : decode cX12_isWay 2 = .ok (.lconst 0, 1) := by decide +kernel
theorem dX12_isWay_3 : decode cX12_isWay 3 = .ok (.ldc2_w 92, 3) := by decide +kernel
theorem dX12_isWay_6 : decode cX12_isWay 6 = .ok (.invokestatic 79, 3) := by decide +kernel
theorem dX12_isWay_9 : decode cX12_isWay 9 = .ok (.ireturn, 1) := by decide +kernel
theorem dX12_isThere_0 : decode cX12_isThere 0 = .ok (.aload_n 0, 1) := by decide +kernel
theorem dX12_isThere_1 : decode cX12_isThere 1 = .ok (.getfield 13, 3) := by decide +kernel
theorem dX12_isThere_4 : decode cX12_isThere 4 = .ok (.sipush 1048, 3) := by decide +kernel
theorem dX12_isThere_7 : decode cX12_isThere 7 = .ok (.sipush 257, 3) := by decide +kernel
theorem dX12_isThere_10 : decode cX12_isThere 10 = .ok (.iload_n 1, 1) := by decide +kernel
theorem dX12_isThere_11 : decode cX12_isThere 11 = .ok (.imul, 1) := by decide +kernel
theorem dX12_isThere_12 : decode cX12_isThere 12 = .ok (.iadd, 1) := by decide +kernel
theorem dX12_isThere_13 : decode cX12_isThere 13 = .ok (.iaload, 1) := by decide +kernel
theorem dX12_isThere_14 : decode cX12_isThere 14 = .ok (.iconst 1, 1) := by decide +kernel
theorem dX12_isThere_15 : decode cX12_isThere 15 = .ok (.if_icmp .ne 7, 3) := by decide +kernel
theorem dX12_isThere_22 : decode cX12_isThere 22 = .ok (.iconst 0, 1) := by decide +kernel
theorem dX12_isThere_23 : decode cX12_isThere 23 = .ok (.ireturn, 1) := by decide +kernel
theorem dX12_isThere_18 : decode cX12_isThere 18 = .ok (.iconst 1, 1) := by decide +kernel
theorem dX12_isThere_19 : decode cX12_isThere 19 = .ok (.goto 4, 3) := by decide +kernel
theorem dX12_ofWay_0 : decode cX12_ofWay 0 = .ok (.aload_n 0, 1) := by decide +kernel
theorem dX12_ofWay_1 : decode cX12_ofWay 1 = .ok (.getfield 13, 3) := by decide +kernel
theorem dX12_ofWay_4 : decode cX12_ofWay 4 = .ok (.bipush 120, 2) := by decide +kernel
theorem dX12_ofWay_6 : decode cX12_ofWay 6 = .ok (.bipush 7, 2) := by decide +kernel
theorem dX12_ofWay_8 : decode cX12_ofWay 8 = .ok (.iload_n 1, 1) := by decide +kernel
theorem dX12_ofWay_9 : decode cX12_ofWay 9 = .ok (.imul, 1) := by decide +kernel
theorem dX12_ofWay_10 : decode cX12_ofWay 10 = .ok (.iadd, 1) := by decide +kernel
theorem dX12_ofWay_11 : decode cX12_ofWay 11 = .ok (.iload_n 2, 1) := by decide +kernel
theorem dX12_ofWay_12 : decode cX12_ofWay 12 = .ok (.iadd, 1) := by decide +kernel
theorem dX12_ofWay_13 : decode cX12_ofWay 13 = .ok (.iaload, 1) := by decide +kernel
theorem dX12_ofWay_14 : decode cX12_ofWay 14 = .ok (.ireturn, 1) := by decide +kernel
theorem dX12_isTold_0 : decode cX12_isTold 0 = .ok (.aload_n 0, 1) := by decide +kernel
theorem dX12_isTold_1 : decode cX12_isTold 1 = .ok (.iload_n 1, 1) := by decide +kernel
theorem dX12_isTold_2 : decode cX12_isTold 2 = .ok (.iconst 0, 1) := by decide +kernel
theorem dX12_isTold_3 : decode cX12_isTold 3 = .ok (.invokevirtual 94, 3) := by decide +kernel
theorem dX12_isTold_6 : decode cX12_isTold 6 = .ok (.iconst 1, 1) := by decide +kernel
theorem dX12_isTold_7 : decode cX12_isTold 7 = .ok (.if_icmp .ne 7, 3) := by decide +kernel
theorem dX12_isTold_14 : decode cX12_isTold 14 = .ok (.iconst 0, 1) := by decide +kernel
theorem dX12_isTold_15 : decode cX12_isTold 15 = .ok (.ireturn, 1) := by decide +kernel
theorem dX12_isTold_10 : decode cX12_isTold 10 = .ok (.iconst 1, 1) := by decide +kernel
theorem dX12_isTold_11 : decode cX12_isTold 11 = .ok (.goto 4, 3) := by decide +kernel
theorem dX12_asks_0 : decode cX12_asks 0 = .ok (.iload_n 1, 1) := by decide +kernel
theorem dX12_asks_1 : decode cX12_asks 1 = .ok (.invokestatic 319, 3) := by decide +kernel
theorem dX12_asks_4 : decode cX12_asks 4 = .ok (.ifCond .eq 10, 3) := by decide +kernel
theorem dX12_asks_14 : decode cX12_asks 14 = .ok (.bipush (-2), 2) := by decide +kernel
theorem dX12_asks_16 : decode cX12_asks 16 = .ok (.goto 25, 3) := by decide +kernel
theorem dX12_asks_41 : decode cX12_asks 41 = .ok (.ireturn, 1) := by decide +kernel
theorem dX12_asks_7 : decode cX12_asks 7 = .ok (.iload_n 2, 1) := by decide +kernel
theorem dX12_asks_8 : decode cX12_asks 8 = .ok (.invokestatic 221, 3) := by decide +kernel
theorem dX12_asks_11 : decode cX12_asks 11 = .ok (.ifCond .ne 8, 3) := by decide +kernel
theorem dX12_asks_19 : decode cX12_asks 19 = .ok (.aload_n 0, 1) := by decide +kernel
theorem dX12_asks_20 : decode cX12_asks 20 = .ok (.iload_n 1, 1) := by decide +kernel
theorem dX12_asks_21 : decode cX12_asks 21 = .ok (.invokevirtual 351, 3) := by decide +kernel
theorem dX12_asks_24 : decode cX12_asks 24 = .ok (.ifCond .eq 11, 3) := by decide +kernel
theorem dX12_asks_35 : decode cX12_asks 35 = .ok (.bipush (-6), 2) := by decide +kernel
theorem dX12_asks_37 : decode cX12_asks 37 = .ok (.goto 4, 3) := by decide +kernel
theorem dX12_asks_27 : decode cX12_asks 27 = .ok (.aload_n 0, 1) := by decide +kernel
theorem dX12_asks_28 : decode cX12_asks 28 = .ok (.iload_n 2, 1) := by decide +kernel
theorem dX12_asks_29 : decode cX12_asks 29 = .ok (.invokevirtual 354, 3) := by decide +kernel
theorem dX12_asks_32 : decode cX12_asks 32 = .ok (.ifCond .ne 8, 3) := by decide +kernel
theorem dX12_asks_40 : decode cX12_asks 40 = .ok (.iconst 0, 1) := by decide +kernel
theorem dX12_rows_0 : decode cX12_rows 0 = .ok (.aload_n 0, 1) := by decide +kernel
theorem dX12_rows_1 : decode cX12_rows 1 = .ok (.getfield 13, 3) := by decide +kernel
theorem dX12_rows_4 : decode cX12_rows 4 = .ok (.iconst 0, 1) := by decide +kernel
theorem dX12_rows_5 : decode cX12_rows 5 = .ok (.iaload, 1) := by decide +kernel
theorem dX12_rows_6 : decode cX12_rows 6 = .ok (.ireturn, 1) := by decide +kernel
theorem dX12_wide_0 : decode cX12_wide 0 = .ok (.aload_n 0, 1) := by decide +kernel
theorem dX12_wide_1 : decode cX12_wide 1 = .ok (.getfield 13, 3) := by decide +kernel
theorem dX12_wide_4 : decode cX12_wide 4 = .ok (.iconst 1, 1) := by decide +kernel
theorem dX12_wide_5 : decode cX12_wide 5 = .ok (.iaload, 1) := by decide +kernel
theorem dX12_wide_6 : decode cX12_wide 6 = .ok (.ireturn, 1) := by decide +kernel
theorem dX12_area_0 : decode cX12_area 0 = .ok (.aload_n 0, 1) := by decide +kernel
theorem dX12_area_1 : decode cX12_area 1 = .ok (.invokevirtual 83, 3) := by decide +kernel
theorem dX12_area_4 : decode cX12_area 4 = .ok (.aload_n 0, 1) := by decide +kernel
theorem dX12_area_5 : decode cX12_area 5 = .ok (.invokevirtual 87, 3) := by decide +kernel
theorem dX12_area_8 : decode cX12_area 8 = .ok (.imul, 1) := by decide +kernel
theorem dX12_area_9 : decode cX12_area 9 = .ok (.ireturn, 1) := by decide +kernel
theorem dX12_sortOf_0 : decode cX12_sortOf 0 = .ok (.iload_n 1, 1) := by decide +kernel
theorem dX12_sortOf_1 : decode cX12_sortOf 1 = .ok (.aload_n 0, 1) := by decide +kernel
theorem dX12_sortOf_2 : decode cX12_sortOf 2 = .ok (.invokevirtual 87, 3) := by decide +kernel
theorem dX12_sortOf_5 : decode cX12_sortOf 5 = .ok (.idiv, 1) := by decide +kernel
theorem dX12_sortOf_6 : decode cX12_sortOf 6 = .ok (.aload_n 0, 1) := by decide +kernel
theorem dX12_sortOf_7 : decode cX12_sortOf 7 = .ok (.getfield 13, 3) := by decide +kernel
theorem dX12_sortOf_10 : decode cX12_sortOf 10 = .ok (.iconst 2, 1) := by decide +kernel
theorem dX12_sortOf_11 : decode cX12_sortOf 11 = .ok (.iaload, 1) := by decide +kernel
theorem dX12_sortOf_12 : decode cX12_sortOf 12 = .ok (.irem, 1) := by decide +kernel
theorem dX12_sortOf_13 : decode cX12_sortOf 13 = .ok (.istore_n 2, 1) := by decide +kernel
theorem dX12_sortOf_14 : decode cX12_sortOf 14 = .ok (.bipush 16, 2) := by decide +kernel
theorem dX12_sortOf_16 : decode cX12_sortOf 16 = .ok (.bipush 13, 2) := by decide +kernel
theorem dX12_sortOf_18 : decode cX12_sortOf 18 = .ok (.iload_n 2, 1) := by decide +kernel
theorem dX12_sortOf_19 : decode cX12_sortOf 19 = .ok (.imul, 1) := by decide +kernel
theorem dX12_sortOf_20 : decode cX12_sortOf 20 = .ok (.iadd, 1) := by decide +kernel
theorem dX12_sortOf_21 : decode cX12_sortOf 21 = .ok (.istore_n 3, 1) := by decide +kernel
theorem dX12_sortOf_22 : decode cX12_sortOf 22 = .ok (.aload_n 0, 1) := by decide +kernel
theorem dX12_sortOf_23 : decode cX12_sortOf 23 = .ok (.getfield 13, 3) := by decide +kernel
theorem dX12_sortOf_26 : decode cX12_sortOf 26 = .ok (.iload_n 3, 1) := by decide +kernel
theorem dX12_sortOf_27 : decode cX12_sortOf 27 = .ok (.iconst 1, 1) := by decide +kernel
theorem dX12_sortOf_28 : decode cX12_sortOf 28 = .ok (.iadd, 1) := by decide +kernel
theorem dX12_sortOf_29 : decode cX12_sortOf 29 = .ok (.iload_n 1, 1) := by decide +kernel
theorem dX12_sortOf_30 : decode cX12_sortOf 30 = .ok (.aload_n 0, 1) := by decide +kernel
theorem dX12_sortOf_31 : decode cX12_sortOf 31 = .ok (.invokevirtual 87, 3) := by decide +kernel
theorem dX12_sortOf_34 : decode cX12_sortOf 34 = .ok (.irem, 1) := by decide +kernel
theorem dX12_sortOf_35 : decode cX12_sortOf 35 = .ok (.aload_n 0, 1) := by decide +kernel
theorem dX12_sortOf_36 : decode cX12_sortOf 36 = .ok (.getfield 13, 3) := by decide +kernel
theorem dX12_sortOf_39 : decode cX12_sortOf 39 = .ok (.iload_n 3, 1) := by decide +kernel
theorem dX12_sortOf_40 : decode cX12_sortOf 40 = .ok (.iaload, 1) := by decide +kernel
theorem dX12_sortOf_41 : decode cX12_sortOf 41 = .ok (.irem, 1) := by decide +kernel
theorem dX12_sortOf_42 : decode cX12_sortOf 42 = .ok (.iadd, 1) := by decide +kernel
theorem dX12_sortOf_43 : decode cX12_sortOf 43 = .ok (.iaload, 1) := by decide +kernel
theorem dX12_sortOf_44 : decode cX12_sortOf 44 = .ok (.ireturn, 1) := by decide +kernel
theorem dX12_lists_0 : decode cX12_lists 0 = .ok (.aload_n 0, 1) := by decide +kernel
theorem dX12_lists_1 : decode cX12_lists 1 = .ok (.iconst 0, 1) := by decide +kernel
theorem dX12_lists_2 : decode cX12_lists 2 = .ok (.putfield 335, 3) := by decide +kernel
theorem dX12_lists_5 : decode cX12_lists 5 = .ok (.iconst 0, 1) := by decide +kernel
theorem dX12_lists_6 : decode cX12_lists 6 = .ok (.istore_n 2, 1) := by decide +kernel
theorem dX12_lists_7 : decode cX12_lists 7 = .ok (.iconst 0, 1) := by decide +kernel
theorem dX12_lists_8 : decode cX12_lists 8 = .ok (.istore_n 3, 1) := by decide +kernel
theorem dX12_lists_9 : decode cX12_lists 9 = .ok (.iload_n 3, 1) := by decide +kernel
theorem dX12_lists_10 : decode cX12_lists 10 = .ok (.aload_n 0, 1) := by decide +kernel
theorem dX12_lists_11 : decode cX12_lists 11 = .ok (.invokevirtual 203, 3) := by decide +kernel
theorem dX12_lists_14 : decode cX12_lists 14 = .ok (.if_icmp .ge 157, 3) := by decide +kernel
theorem dX12_lists_171 : decode cX12_lists 171 = .ok (.return_, 1) := by decide +kernel
theorem dX12_lists_17 : decode cX12_lists 17 = .ok (.aload_n 0, 1) := by decide +kernel
theorem dX12_lists_18 : decode cX12_lists 18 = .ok (.iload_n 1, 1) := by decide +kernel
theorem dX12_lists_19 : decode cX12_lists 19 = .ok (.bipush 6, 2) := by decide +kernel
theorem dX12_lists_21 : decode cX12_lists 21 = .ok (.invokevirtual 94, 3) := by decide +kernel
theorem dX12_lists_24 : decode cX12_lists 24 = .ok (.iconst 1, 1) := by decide +kernel
theorem dX12_lists_50 : decode cX12_lists 50 = .ok (.istore 4, 2) := by decide +kernel
theorem dX12_lists_52 : decode cX12_lists 52 = .ok (.aload_n 0, 1) := by decide +kernel
theorem dX12_lists_53 : decode cX12_lists 53 = .ok (.iload_n 1, 1) := by decide +kernel
theorem dX12_lists_54 : decode cX12_lists 54 = .ok (.iconst 5, 1) := by decide +kernel
theorem dX12_lists_55 : decode cX12_lists 55 = .ok (.invokevirtual 94, 3) := by decide +kernel
theorem dX12_lists_58 : decode cX12_lists 58 = .ok (.iconst 1, 1) := by decide +kernel
theorem dX12_lists_92 : decode cX12_lists 92 = .ok (.istore 5, 2) := by decide +kernel
theorem dX12_lists_94 : decode cX12_lists 94 = .ok (.iload 4, 2) := by decide +kernel
theorem dX12_lists_96 : decode cX12_lists 96 = .ok (.aload_n 0, 1) := by decide +kernel
theorem dX12_lists_97 : decode cX12_lists 97 = .ok (.invokevirtual 87, 3) := by decide +kernel
theorem dX12_lists_100 : decode cX12_lists 100 = .ok (.imul, 1) := by decide +kernel
theorem dX12_lists_101 : decode cX12_lists 101 = .ok (.iload 5, 2) := by decide +kernel
theorem dX12_lists_103 : decode cX12_lists 103 = .ok (.iadd, 1) := by decide +kernel
theorem dX12_lists_104 : decode cX12_lists 104 = .ok (.istore 6, 2) := by decide +kernel
theorem dX12_lists_106 : decode cX12_lists 106 = .ok (.aload_n 0, 1) := by decide +kernel
theorem dX12_lists_107 : decode cX12_lists 107 = .ok (.iload_n 1, 1) := by decide +kernel
theorem dX12_lists_108 : decode cX12_lists 108 = .ok (.iconst 1, 1) := by decide +kernel
theorem dX12_lists_109 : decode cX12_lists 109 = .ok (.invokevirtual 94, 3) := by decide +kernel
theorem dX12_lists_112 : decode cX12_lists 112 = .ok (.aload_n 0, 1) := by decide +kernel
theorem dX12_lists_113 : decode cX12_lists 113 = .ok (.iload 6, 2) := by decide +kernel
theorem dX12_lists_115 : decode cX12_lists 115 = .ok (.invokevirtual 98, 3) := by decide +kernel
theorem dX12_lists_118 : decode cX12_lists 118 = .ok (.ishr, 1) := by decide +kernel
theorem dX12_lists_119 : decode cX12_lists 119 = .ok (.iconst 1, 1) := by decide +kernel
theorem dX12_lists_120 : decode cX12_lists 120 = .ok (.iand, 1) := by decide +kernel
theorem dX12_lists_121 : decode cX12_lists 121 = .ok (.ifCond .ne 6, 3) := by decide +kernel
theorem dX12_lists_127 : decode cX12_lists 127 = .ok (.iinc 2 1, 3) := by decide +kernel
theorem dX12_lists_130 : decode cX12_lists 130 = .ok (.iload_n 2, 1) := by decide +kernel
theorem dX12_lists_131 : decode cX12_lists 131 = .ok (.aload_n 0, 1) := by decide +kernel
theorem dX12_lists_132 : decode cX12_lists 132 = .ok (.iload_n 1, 1) := by decide +kernel
theorem dX12_lists_133 : decode cX12_lists 133 = .ok (.iconst 2, 1) := by decide +kernel
theorem dX12_lists_134 : decode cX12_lists 134 = .ok (.invokevirtual 94, 3) := by decide +kernel
theorem dX12_lists_137 : decode cX12_lists 137 = .ok (.irem, 1) := by decide +kernel
theorem dX12_lists_138 : decode cX12_lists 138 = .ok (.ifCond .eq 6, 3) := by decide +kernel
theorem dX12_lists_144 : decode cX12_lists 144 = .ok (.aload_n 0, 1) := by decide +kernel
theorem dX12_lists_145 : decode cX12_lists 145 = .ok (.getfield 40, 3) := by decide +kernel
theorem dX12_lists_148 : decode cX12_lists 148 = .ok (.aload_n 0, 1) := by decide +kernel
theorem dX12_lists_149 : decode cX12_lists 149 = .ok (.getfield 335, 3) := by decide +kernel
theorem dX12_lists_152 : decode cX12_lists 152 = .ok (.iload 6, 2) := by decide +kernel
theorem dX12_lists_154 : decode cX12_lists 154 = .ok (.iastore, 1) := by decide +kernel
theorem dX12_lists_155 : decode cX12_lists 155 = .ok (.aload_n 0, 1) := by decide +kernel
theorem dX12_lists_156 : decode cX12_lists 156 = .ok (.dup, 1) := by decide +kernel
theorem dX12_lists_157 : decode cX12_lists 157 = .ok (.getfield 335, 3) := by decide +kernel
theorem dX12_lists_160 : decode cX12_lists 160 = .ok (.iconst 1, 1) := by decide +kernel
theorem dX12_lists_161 : decode cX12_lists 161 = .ok (.iadd, 1) := by decide +kernel
theorem dX12_lists_162 : decode cX12_lists 162 = .ok (.putfield 335, 3) := by decide +kernel
theorem dX12_lists_165 : decode cX12_lists 165 = .ok (.iinc 3 1, 3) := by decide +kernel
theorem dX12_lists_168 : decode cX12_lists 168 = .ok (.goto (-159), 3) := by decide +kernel
theorem dX12_lists_141 : decode cX12_lists 141 = .ok (.goto 24, 3) := by decide +kernel
theorem dX12_lists_124 : decode cX12_lists 124 = .ok (.goto 41, 3) := by decide +kernel
theorem dX12_lists_59 : decode cX12_lists 59 = .ok (.if_icmp .ne 27, 3) := by decide +kernel
theorem dX12_lists_86 : decode cX12_lists 86 = .ok (.iload_n 3, 1) := by decide +kernel
theorem dX12_lists_87 : decode cX12_lists 87 = .ok (.aload_n 0, 1) := by decide +kernel
theorem dX12_lists_88 : decode cX12_lists 88 = .ok (.invokevirtual 87, 3) := by decide +kernel
theorem dX12_lists_91 : decode cX12_lists 91 = .ok (.irem, 1) := by decide +kernel
theorem dX12_lists_62 : decode cX12_lists 62 = .ok (.iload 4, 2) := by decide +kernel
theorem dX12_lists_64 : decode cX12_lists 64 = .ok (.iconst 2, 1) := by decide +kernel
theorem dX12_lists_65 : decode cX12_lists 65 = .ok (.irem, 1) := by decide +kernel
theorem dX12_lists_66 : decode cX12_lists 66 = .ok (.iconst 1, 1) := by decide +kernel
theorem dX12_lists_67 : decode cX12_lists 67 = .ok (.if_icmp .ne 19, 3) := by decide +kernel
theorem dX12_lists_70 : decode cX12_lists 70 = .ok (.aload_n 0, 1) := by decide +kernel
theorem dX12_lists_71 : decode cX12_lists 71 = .ok (.invokevirtual 87, 3) := by decide +kernel
theorem dX12_lists_74 : decode cX12_lists 74 = .ok (.iconst 1, 1) := by decide +kernel
theorem dX12_lists_75 : decode cX12_lists 75 = .ok (.isub, 1) := by decide +kernel
theorem dX12_lists_76 : decode cX12_lists 76 = .ok (.iload_n 3, 1) := by decide +kernel
theorem dX12_lists_77 : decode cX12_lists 77 = .ok (.aload_n 0, 1) := by decide +kernel
theorem dX12_lists_78 : decode cX12_lists 78 = .ok (.invokevirtual 87, 3) := by decide +kernel
theorem dX12_lists_81 : decode cX12_lists 81 = .ok (.irem, 1) := by decide +kernel
theorem dX12_lists_82 : decode cX12_lists 82 = .ok (.isub, 1) := by decide +kernel
theorem dX12_lists_83 : decode cX12_lists 83 = .ok (.goto 9, 3) := by decide +kernel
theorem dX12_lists_25 : decode cX12_lists 25 = .ok (.if_icmp .ne 19, 3) := by decide +kernel
theorem dX12_lists_44 : decode cX12_lists 44 = .ok (.iload_n 3, 1) := by decide +kernel
theorem dX12_lists_45 : decode cX12_lists 45 = .ok (.aload_n 0, 1) := by decide +kernel
theorem dX12_lists_46 : decode cX12_lists 46 = .ok (.invokevirtual 87, 3) := by decide +kernel
theorem dX12_lists_49 : decode cX12_lists 49 = .ok (.idiv, 1) := by decide +kernel
theorem dX12_lists_28 : decode cX12_lists 28 = .ok (.aload_n 0, 1) := by decide +kernel
theorem dX12_lists_29 : decode cX12_lists 29 = .ok (.invokevirtual 83, 3) := by decide +kernel
theorem dX12_lists_32 : decode cX12_lists 32 = .ok (.iconst 1, 1) := by decide +kernel
theorem dX12_lists_33 : decode cX12_lists 33 = .ok (.isub, 1) := by decide +kernel
theorem dX12_lists_34 : decode cX12_lists 34 = .ok (.iload_n 3, 1) := by decide +kernel
theorem dX12_lists_35 : decode cX12_lists 35 = .ok (.aload_n 0, 1) := by decide +kernel
theorem dX12_lists_36 : decode cX12_lists 36 = .ok (.invokevirtual 87, 3) := by decide +kernel
theorem dX12_lists_39 : decode cX12_lists 39 = .ok (.idiv, 1) := by decide +kernel
theorem dX12_lists_40 : decode cX12_lists 40 = .ok (.isub, 1) := by decide +kernel
theorem dX12_lists_41 : decode cX12_lists 41 = .ok (.goto 9, 3) := by decide +kernel
theorem dX12_roomOf_0 : decode cX12_roomOf 0 = .ok (.aload_n 0, 1) := by decide +kernel
theorem dX12_roomOf_1 : decode cX12_roomOf 1 = .ok (.iload_n 1, 1) := by decide +kernel
theorem dX12_roomOf_2 : decode cX12_roomOf 2 = .ok (.invokevirtual 338, 3) := by decide +kernel
theorem dX12_roomOf_5 : decode cX12_roomOf 5 = .ok (.aload_n 0, 1) := by decide +kernel
theorem dX12_roomOf_6 : decode cX12_roomOf 6 = .ok (.getfield 335, 3) := by decide +kernel
theorem dX12_roomOf_9 : decode cX12_roomOf 9 = .ok (.aload_n 0, 1) := by decide +kernel
theorem dX12_roomOf_10 : decode cX12_roomOf 10 = .ok (.iload_n 1, 1) := by decide +kernel
theorem dX12_roomOf_11 : decode cX12_roomOf 11 = .ok (.iconst 3, 1) := by decide +kernel
theorem dX12_roomOf_12 : decode cX12_roomOf 12 = .ok (.invokevirtual 94, 3) := by decide +kernel
theorem dX12_roomOf_15 : decode cX12_roomOf 15 = .ok (.idiv, 1) := by decide +kernel
theorem dX12_roomOf_16 : decode cX12_roomOf 16 = .ok (.aload_n 0, 1) := by decide +kernel
theorem dX12_roomOf_17 : decode cX12_roomOf 17 = .ok (.iload_n 1, 1) := by decide +kernel
theorem dX12_roomOf_18 : decode cX12_roomOf 18 = .ok (.iconst 4, 1) := by decide +kernel
theorem dX12_roomOf_19 : decode cX12_roomOf 19 = .ok (.invokevirtual 94, 3) := by decide +kernel
theorem dX12_roomOf_22 : decode cX12_roomOf 22 = .ok (.idiv, 1) := by decide +kernel
theorem dX12_roomOf_23 : decode cX12_roomOf 23 = .ok (.ireturn, 1) := by decide +kernel
theorem dX12_stands_0 : decode cX12_stands 0 = .ok (.aload_n 0, 1) := by decide +kernel
theorem dX12_stands_1 : decode cX12_stands 1 = .ok (.getfield 13, 3) := by decide +kernel
theorem dX12_stands_4 : decode cX12_stands 4 = .ok (.sipush 1048, 3) := by decide +kernel
theorem dX12_stands_7 : decode cX12_stands 7 = .ok (.sipush 257, 3) := by decide +kernel
theorem dX12_stands_10 : decode cX12_stands 10 = .ok (.iload_n 1, 1) := by decide +kernel
theorem dX12_stands_11 : decode cX12_stands 11 = .ok (.imul, 1) := by decide +kernel
theorem dX12_stands_12 : decode cX12_stands 12 = .ok (.iadd, 1) := by decide +kernel
theorem dX12_stands_13 : decode cX12_stands 13 = .ok (.iconst 1, 1) := by decide +kernel
theorem dX12_stands_14 : decode cX12_stands 14 = .ok (.iadd, 1) := by decide +kernel
theorem dX12_stands_15 : decode cX12_stands 15 = .ok (.iload_n 2, 1) := by decide +kernel
theorem dX12_stands_16 : decode cX12_stands 16 = .ok (.iadd, 1) := by decide +kernel
theorem dX12_stands_17 : decode cX12_stands 17 = .ok (.iaload, 1) := by decide +kernel
theorem dX12_stands_18 : decode cX12_stands 18 = .ok (.ireturn, 1) := by decide +kernel
theorem dX12_takes0_0 : decode cX12_takes0 0 = .ok (.iconst 0, 1) := by decide +kernel
theorem dX12_takes0_1 : decode cX12_takes0 1 = .ok (.istore_n 2, 1) := by decide +kernel
theorem dX12_takes0_2 : decode cX12_takes0 2 = .ok (.iload_n 2, 1) := by decide +kernel
theorem dX12_takes0_3 : decode cX12_takes0 3 = .ok (.sipush 256, 3) := by decide +kernel
theorem dX12_takes0_6 : decode cX12_takes0 6 = .ok (.if_icmp .ge 21, 3) := by decide +kernel
theorem dX12_takes0_27 : decode cX12_takes0 27 = .ok (.return_, 1) := by decide +kernel
theorem dX12_takes0_9 : decode cX12_takes0 9 = .ok (.aload_n 0, 1) := by decide +kernel
theorem dX12_takes0_10 : decode cX12_takes0 10 = .ok (.getfield 37, 3) := by decide +kernel
theorem dX12_takes0_13 : decode cX12_takes0 13 = .ok (.iload_n 2, 1) := by decide +kernel
theorem dX12_takes0_14 : decode cX12_takes0 14 = .ok (.aload_n 0, 1) := by decide +kernel
theorem dX12_takes0_15 : decode cX12_takes0 15 = .ok (.iload_n 1, 1) := by decide +kernel
theorem dX12_takes0_16 : decode cX12_takes0 16 = .ok (.iload_n 2, 1) := by decide +kernel
theorem dX12_takes0_17 : decode cX12_takes0 17 = .ok (.invokevirtual 301, 3) := by decide +kernel
theorem dX12_takes0_20 : decode cX12_takes0 20 = .ok (.iastore, 1) := by decide +kernel
theorem dX12_takes0_21 : decode cX12_takes0 21 = .ok (.iinc 2 1, 3) := by decide +kernel
theorem dX12_takes0_24 : decode cX12_takes0 24 = .ok (.goto (-22), 3) := by decide +kernel
theorem dX12_tells_0 : decode cX12_tells 0 = .ok (.iconst 0, 1) := by decide +kernel
theorem dX12_tells_1 : decode cX12_tells 1 = .ok (.istore_n 3, 1) := by decide +kernel
theorem dX12_tells_2 : decode cX12_tells 2 = .ok (.iconst 0, 1) := by decide +kernel
theorem dX12_tells_3 : decode cX12_tells 3 = .ok (.istore 4, 2) := by decide +kernel
theorem dX12_tells_5 : decode cX12_tells 5 = .ok (.iload 4, 2) := by decide +kernel
theorem dX12_tells_7 : decode cX12_tells 7 = .ok (.aload_n 0, 1) := by decide +kernel
theorem dX12_tells_8 : decode cX12_tells 8 = .ok (.iload_n 1, 1) := by decide +kernel
theorem dX12_tells_9 : decode cX12_tells 9 = .ok (.iconst 3, 1) := by decide +kernel
theorem dX12_tells_10 : decode cX12_tells 10 = .ok (.invokevirtual 94, 3) := by decide +kernel
theorem dX12_tells_13 : decode cX12_tells 13 = .ok (.if_icmp .ge 53, 3) := by decide +kernel
theorem dX12_tells_66 : decode cX12_tells 66 = .ok (.iload_n 3, 1) := by decide +kernel
theorem dX12_tells_67 : decode cX12_tells 67 = .ok (.iconst 2, 1) := by decide +kernel
theorem dX12_tells_68 : decode cX12_tells 68 = .ok (.irem, 1) := by decide +kernel
theorem dX12_tells_69 : decode cX12_tells 69 = .ok (.ireturn, 1) := by decide +kernel
theorem dX12_tells_16 : decode cX12_tells 16 = .ok (.aload_n 0, 1) := by decide +kernel
theorem dX12_tells_17 : decode cX12_tells 17 = .ok (.getfield 37, 3) := by decide +kernel
theorem dX12_tells_20 : decode cX12_tells 20 = .ok (.aload_n 0, 1) := by decide +kernel
theorem dX12_tells_21 : decode cX12_tells 21 = .ok (.getfield 40, 3) := by decide +kernel
theorem dX12_tells_24 : decode cX12_tells 24 = .ok (.iload_n 2, 1) := by decide +kernel
theorem dX12_tells_25 : decode cX12_tells 25 = .ok (.aload_n 0, 1) := by decide +kernel
theorem dX12_tells_26 : decode cX12_tells 26 = .ok (.iload_n 1, 1) := by decide +kernel
theorem dX12_tells_27 : decode cX12_tells 27 = .ok (.iconst 3, 1) := by decide +kernel
theorem dX12_tells_28 : decode cX12_tells 28 = .ok (.invokevirtual 94, 3) := by decide +kernel
theorem dX12_tells_31 : decode cX12_tells 31 = .ok (.imul, 1) := by decide +kernel
theorem dX12_tells_32 : decode cX12_tells 32 = .ok (.iload 4, 2) := by decide +kernel
theorem dX12_tells_34 : decode cX12_tells 34 = .ok (.iadd, 1) := by decide +kernel
theorem dX12_tells_35 : decode cX12_tells 35 = .ok (.iaload, 1) := by decide +kernel
theorem dX12_tells_36 : decode cX12_tells 36 = .ok (.iaload, 1) := by decide +kernel
theorem dX12_tells_37 : decode cX12_tells 37 = .ok (.istore 5, 2) := by decide +kernel
theorem dX12_tells_39 : decode cX12_tells 39 = .ok (.iload 5, 2) := by decide +kernel
theorem dX12_tells_41 : decode cX12_tells 41 = .ok (.iconst 4, 1) := by decide +kernel
theorem dX12_tells_42 : decode cX12_tells 42 = .ok (.if_icmp .ne 5, 3) := by decide +kernel
theorem dX12_tells_47 : decode cX12_tells 47 = .ok (.iload_n 3, 1) := by decide +kernel
theorem dX12_tells_48 : decode cX12_tells 48 = .ok (.iload 5, 2) := by decide +kernel
theorem dX12_tells_50 : decode cX12_tells 50 = .ok (.ifCond .ne 7, 3) := by decide +kernel
theorem dX12_tells_57 : decode cX12_tells 57 = .ok (.iconst 1, 1) := by decide +kernel
theorem dX12_tells_58 : decode cX12_tells 58 = .ok (.iadd, 1) := by decide +kernel
theorem dX12_tells_59 : decode cX12_tells 59 = .ok (.istore_n 3, 1) := by decide +kernel
theorem dX12_tells_60 : decode cX12_tells 60 = .ok (.iinc 4 1, 3) := by decide +kernel
theorem dX12_tells_63 : decode cX12_tells 63 = .ok (.goto (-58), 3) := by decide +kernel
theorem dX12_tells_53 : decode cX12_tells 53 = .ok (.iconst 0, 1) := by decide +kernel
theorem dX12_tells_54 : decode cX12_tells 54 = .ok (.goto 4, 3) := by decide +kernel
theorem dX12_tells_45 : decode cX12_tells 45 = .ok (.iconst 2, 1) := by decide +kernel
theorem dX12_tells_46 : decode cX12_tells 46 = .ok (.ireturn, 1) := by decide +kernel
theorem dX12_turnedOf_0 : decode cX12_turnedOf 0 = .ok (.aload_n 0, 1) := by decide +kernel
theorem dX12_turnedOf_1 : decode cX12_turnedOf 1 = .ok (.iload_n 1, 1) := by decide +kernel
theorem dX12_turnedOf_2 : decode cX12_turnedOf 2 = .ok (.invokevirtual 98, 3) := by decide +kernel
theorem dX12_turnedOf_5 : decode cX12_turnedOf 5 = .ok (.iconst 1, 1) := by decide +kernel
theorem dX12_turnedOf_6 : decode cX12_turnedOf 6 = .ok (.isub, 1) := by decide +kernel
theorem dX12_turnedOf_7 : decode cX12_turnedOf 7 = .ok (.ireturn, 1) := by decide +kernel
theorem dX12_turnOver_0 : decode cX12_turnOver 0 = .ok (.aload_n 0, 1) := by decide +kernel
theorem dX12_turnOver_1 : decode cX12_turnOver 1 = .ok (.getfield 37, 3) := by decide +kernel
theorem dX12_turnOver_4 : decode cX12_turnOver 4 = .ok (.iload_n 1, 1) := by decide +kernel
theorem dX12_turnOver_5 : decode cX12_turnOver 5 = .ok (.iaload, 1) := by decide +kernel
theorem dX12_turnOver_6 : decode cX12_turnOver 6 = .ok (.ifCond .ne 11, 3) := by decide +kernel
theorem dX12_turnOver_17 : decode cX12_turnOver 17 = .ok (.iconst 0, 1) := by decide +kernel
theorem dX12_turnOver_18 : decode cX12_turnOver 18 = .ok (.ireturn, 1) := by decide +kernel
theorem dX12_turnOver_9 : decode cX12_turnOver 9 = .ok (.aload_n 0, 1) := by decide +kernel
theorem dX12_turnOver_10 : decode cX12_turnOver 10 = .ok (.iload_n 1, 1) := by decide +kernel
theorem dX12_turnOver_11 : decode cX12_turnOver 11 = .ok (.invokevirtual 314, 3) := by decide +kernel
theorem dX12_turnOver_14 : decode cX12_turnOver 14 = .ok (.goto 4, 3) := by decide +kernel
theorem dX12_putBit_0 : decode cX12_putBit 0 = .ok (.iconst 0, 1) := by decide +kernel
theorem dX12_putBit_1 : decode cX12_putBit 1 = .ok (.istore 4, 2) := by decide +kernel
theorem dX12_putBit_3 : decode cX12_putBit 3 = .ok (.iload_n 2, 1) := by decide +kernel
theorem dX12_putBit_4 : decode cX12_putBit 4 = .ok (.aload_n 0, 1) := by decide +kernel
theorem dX12_putBit_5 : decode cX12_putBit 5 = .ok (.iload_n 1, 1) := by decide +kernel
theorem dX12_putBit_6 : decode cX12_putBit 6 = .ok (.iconst 4, 1) := by decide +kernel
theorem dX12_putBit_7 : decode cX12_putBit 7 = .ok (.invokevirtual 94, 3) := by decide +kernel
theorem dX12_putBit_10 : decode cX12_putBit 10 = .ok (.imul, 1) := by decide +kernel
theorem dX12_putBit_11 : decode cX12_putBit 11 = .ok (.istore 5, 2) := by decide +kernel
theorem dX12_putBit_13 : decode cX12_putBit 13 = .ok (.iload 5, 2) := by decide +kernel
theorem dX12_putBit_15 : decode cX12_putBit 15 = .ok (.iload_n 2, 1) := by decide +kernel
theorem dX12_putBit_16 : decode cX12_putBit 16 = .ok (.iconst 1, 1) := by decide +kernel
theorem dX12_putBit_17 : decode cX12_putBit 17 = .ok (.iadd, 1) := by decide +kernel
theorem dX12_putBit_18 : decode cX12_putBit 18 = .ok (.aload_n 0, 1) := by decide +kernel
theorem dX12_putBit_19 : decode cX12_putBit 19 = .ok (.iload_n 1, 1) := by decide +kernel
theorem dX12_putBit_20 : decode cX12_putBit 20 = .ok (.iconst 4, 1) := by decide +kernel
theorem dX12_putBit_21 : decode cX12_putBit 21 = .ok (.invokevirtual 94, 3) := by decide +kernel
theorem dX12_putBit_24 : decode cX12_putBit 24 = .ok (.imul, 1) := by decide +kernel
theorem dX12_putBit_25 : decode cX12_putBit 25 = .ok (.if_icmp .ge 116, 3) := by decide +kernel
theorem dX12_putBit_141 : decode cX12_putBit 141 = .ok (.iload 4, 2) := by decide +kernel
theorem dX12_putBit_143 : decode cX12_putBit 143 = .ok (.ireturn, 1) := by decide +kernel
theorem dX12_putBit_28 : decode cX12_putBit 28 = .ok (.aload_n 0, 1) := by decide +kernel
theorem dX12_putBit_29 : decode cX12_putBit 29 = .ok (.iload_n 1, 1) := by decide +kernel
theorem dX12_putBit_30 : decode cX12_putBit 30 = .ok (.iload 5, 2) := by decide +kernel
theorem dX12_putBit_32 : decode cX12_putBit 32 = .ok (.invokevirtual 341, 3) := by decide +kernel
theorem dX12_putBit_35 : decode cX12_putBit 35 = .ok (.iload_n 3, 1) := by decide +kernel
theorem dX12_putBit_36 : decode cX12_putBit 36 = .ok (.if_icmp .ne 6, 3) := by decide +kernel
theorem dX12_putBit_42 : decode cX12_putBit 42 = .ok (.iconst (-1), 1) := by decide +kernel
theorem dX12_putBit_43 : decode cX12_putBit 43 = .ok (.istore 6, 2) := by decide +kernel
theorem dX12_putBit_45 : decode cX12_putBit 45 = .ok (.iconst 0, 1) := by decide +kernel
theorem dX12_putBit_46 : decode cX12_putBit 46 = .ok (.istore 7, 2) := by decide +kernel
theorem dX12_putBit_48 : decode cX12_putBit 48 = .ok (.iload 7, 2) := by decide +kernel
theorem dX12_putBit_50 : decode cX12_putBit 50 = .ok (.aload_n 0, 1) := by decide +kernel
theorem dX12_putBit_51 : decode cX12_putBit 51 = .ok (.iload_n 1, 1) := by decide +kernel
theorem dX12_putBit_52 : decode cX12_putBit 52 = .ok (.iconst 3, 1) := by decide +kernel
theorem dX12_putBit_53 : decode cX12_putBit 53 = .ok (.invokevirtual 94, 3) := by decide +kernel
theorem dX12_putBit_56 : decode cX12_putBit 56 = .ok (.if_icmp .ge 54, 3) := by decide +kernel
theorem dX12_putBit_110 : decode cX12_putBit 110 = .ok (.iload 6, 2) := by decide +kernel
theorem dX12_putBit_112 : decode cX12_putBit 112 = .ok (.iconst (-1), 1) := by decide +kernel
theorem dX12_putBit_113 : decode cX12_putBit 113 = .ok (.if_icmp .ne 6, 3) := by decide +kernel
theorem dX12_putBit_119 : decode cX12_putBit 119 = .ok (.aload_n 0, 1) := by decide +kernel
theorem dX12_putBit_120 : decode cX12_putBit 120 = .ok (.getfield 37, 3) := by decide +kernel
theorem dX12_putBit_123 : decode cX12_putBit 123 = .ok (.iload 6, 2) := by decide +kernel
theorem dX12_putBit_125 : decode cX12_putBit 125 = .ok (.aload_n 0, 1) := by decide +kernel
theorem dX12_putBit_126 : decode cX12_putBit 126 = .ok (.iload 6, 2) := by decide +kernel
theorem dX12_putBit_128 : decode cX12_putBit 128 = .ok (.invokevirtual 344, 3) := by decide +kernel
theorem dX12_putBit_131 : decode cX12_putBit 131 = .ok (.iastore, 1) := by decide +kernel
theorem dX12_putBit_132 : decode cX12_putBit 132 = .ok (.iinc 4 1, 3) := by decide +kernel
theorem dX12_putBit_135 : decode cX12_putBit 135 = .ok (.iinc 5 1, 3) := by decide +kernel
theorem dX12_putBit_138 : decode cX12_putBit 138 = .ok (.goto (-125), 3) := by decide +kernel
theorem dX12_putBit_116 : decode cX12_putBit 116 = .ok (.goto 19, 3) := by decide +kernel
theorem dX12_putBit_59 : decode cX12_putBit 59 = .ok (.aload_n 0, 1) := by decide +kernel
theorem dX12_putBit_60 : decode cX12_putBit 60 = .ok (.getfield 37, 3) := by decide +kernel
theorem dX12_putBit_63 : decode cX12_putBit 63 = .ok (.aload_n 0, 1) := by decide +kernel
theorem dX12_putBit_64 : decode cX12_putBit 64 = .ok (.getfield 40, 3) := by decide +kernel
theorem dX12_putBit_67 : decode cX12_putBit 67 = .ok (.iload 5, 2) := by decide +kernel
theorem dX12_putBit_69 : decode cX12_putBit 69 = .ok (.aload_n 0, 1) := by decide +kernel
theorem dX12_putBit_70 : decode cX12_putBit 70 = .ok (.iload_n 1, 1) := by decide +kernel
theorem dX12_putBit_71 : decode cX12_putBit 71 = .ok (.iconst 3, 1) := by decide +kernel
theorem dX12_putBit_72 : decode cX12_putBit 72 = .ok (.invokevirtual 94, 3) := by decide +kernel
theorem dX12_putBit_75 : decode cX12_putBit 75 = .ok (.imul, 1) := by decide +kernel
theorem dX12_putBit_76 : decode cX12_putBit 76 = .ok (.iload 7, 2) := by decide +kernel
theorem dX12_putBit_78 : decode cX12_putBit 78 = .ok (.iadd, 1) := by decide +kernel
theorem dX12_putBit_79 : decode cX12_putBit 79 = .ok (.iaload, 1) := by decide +kernel
theorem dX12_putBit_80 : decode cX12_putBit 80 = .ok (.iaload, 1) := by decide +kernel
theorem dX12_putBit_81 : decode cX12_putBit 81 = .ok (.iconst 4, 1) := by decide +kernel
theorem dX12_putBit_82 : decode cX12_putBit 82 = .ok (.if_icmp .eq 22, 3) := by decide +kernel
theorem dX12_putBit_104 : decode cX12_putBit 104 = .ok (.iinc 7 1, 3) := by decide +kernel
theorem dX12_putBit_107 : decode cX12_putBit 107 = .ok (.goto (-59), 3) := by decide +kernel
theorem dX12_putBit_85 : decode cX12_putBit 85 = .ok (.aload_n 0, 1) := by decide +kernel
theorem dX12_putBit_86 : decode cX12_putBit 86 = .ok (.getfield 40, 3) := by decide +kernel
theorem dX12_putBit_89 : decode cX12_putBit 89 = .ok (.iload 5, 2) := by decide +kernel
theorem dX12_putBit_91 : decode cX12_putBit 91 = .ok (.aload_n 0, 1) := by decide +kernel
theorem dX12_putBit_92 : decode cX12_putBit 92 = .ok (.iload_n 1, 1) := by decide +kernel
theorem dX12_putBit_93 : decode cX12_putBit 93 = .ok (.iconst 3, 1) := by decide +kernel
theorem dX12_putBit_94 : decode cX12_putBit 94 = .ok (.invokevirtual 94, 3) := by decide +kernel
theorem dX12_putBit_97 : decode cX12_putBit 97 = .ok (.imul, 1) := by decide +kernel
theorem dX12_putBit_98 : decode cX12_putBit 98 = .ok (.iload 7, 2) := by decide +kernel
theorem dX12_putBit_100 : decode cX12_putBit 100 = .ok (.iadd, 1) := by decide +kernel
theorem dX12_putBit_101 : decode cX12_putBit 101 = .ok (.iaload, 1) := by decide +kernel
theorem dX12_putBit_102 : decode cX12_putBit 102 = .ok (.istore 6, 2) := by decide +kernel
theorem dX12_putBit_39 : decode cX12_putBit 39 = .ok (.goto 96, 3) := by decide +kernel
theorem dX12_puts_0 : decode cX12_puts 0 = .ok (.iconst 0, 1) := by decide +kernel
theorem dX12_puts_1 : decode cX12_puts 1 = .ok (.istore 4, 2) := by decide +kernel
theorem dX12_puts_3 : decode cX12_puts 3 = .ok (.iconst 0, 1) := by decide +kernel
theorem dX12_puts_4 : decode cX12_puts 4 = .ok (.istore 5, 2) := by decide +kernel
theorem dX12_puts_6 : decode cX12_puts 6 = .ok (.iload 5, 2) := by decide +kernel
theorem dX12_puts_8 : decode cX12_puts 8 = .ok (.iconst 5, 1) := by decide +kernel
theorem dX12_puts_9 : decode cX12_puts 9 = .ok (.iload_n 3, 1) := by decide +kernel
theorem dX12_puts_10 : decode cX12_puts 10 = .ok (.iconst 1, 1) := by decide +kernel
theorem dX12_puts_11 : decode cX12_puts 11 = .ok (.iadd, 1) := by decide +kernel
theorem dX12_puts_12 : decode cX12_puts 12 = .ok (.imul, 1) := by decide +kernel
theorem dX12_puts_13 : decode cX12_puts 13 = .ok (.if_icmp .ge 53, 3) := by decide +kernel
theorem dX12_puts_66 : decode cX12_puts 66 = .ok (.iload 4, 2) := by decide +kernel
theorem dX12_puts_68 : decode cX12_puts 68 = .ok (.ireturn, 1) := by decide +kernel
theorem dX12_puts_16 : decode cX12_puts 16 = .ok (.iload 5, 2) := by decide +kernel
theorem dX12_puts_18 : decode cX12_puts 18 = .ok (.iconst 5, 1) := by decide +kernel
theorem dX12_puts_19 : decode cX12_puts 19 = .ok (.idiv, 1) := by decide +kernel
theorem dX12_puts_20 : decode cX12_puts 20 = .ok (.iload_n 3, 1) := by decide +kernel
theorem dX12_puts_35 : decode cX12_puts 35 = .ok (.istore 6, 2) := by decide +kernel
theorem dX12_puts_37 : decode cX12_puts 37 = .ok (.iload 4, 2) := by decide +kernel
theorem dX12_puts_39 : decode cX12_puts 39 = .ok (.aload_n 0, 1) := by decide +kernel
theorem dX12_puts_40 : decode cX12_puts 40 = .ok (.iload_n 1, 1) := by decide +kernel
theorem dX12_puts_41 : decode cX12_puts 41 = .ok (.iload 5, 2) := by decide +kernel
theorem dX12_puts_43 : decode cX12_puts 43 = .ok (.iload 6, 2) := by decide +kernel
theorem dX12_puts_45 : decode cX12_puts 45 = .ok (.iconst 4, 1) := by decide +kernel
theorem dX12_puts_46 : decode cX12_puts 46 = .ok (.iload 5, 2) := by decide +kernel
theorem dX12_puts_48 : decode cX12_puts 48 = .ok (.iconst 5, 1) := by decide +kernel
theorem dX12_puts_49 : decode cX12_puts 49 = .ok (.irem, 1) := by decide +kernel
theorem dX12_puts_50 : decode cX12_puts 50 = .ok (.isub, 1) := by decide +kernel
theorem dX12_puts_51 : decode cX12_puts 51 = .ok (.ishr, 1) := by decide +kernel
theorem dX12_puts_52 : decode cX12_puts 52 = .ok (.iconst 1, 1) := by decide +kernel
theorem dX12_puts_53 : decode cX12_puts 53 = .ok (.iand, 1) := by decide +kernel
theorem dX12_puts_54 : decode cX12_puts 54 = .ok (.invokevirtual 347, 3) := by decide +kernel
theorem dX12_puts_57 : decode cX12_puts 57 = .ok (.iadd, 1) := by decide +kernel
theorem dX12_puts_58 : decode cX12_puts 58 = .ok (.istore 4, 2) := by decide +kernel
theorem dX12_puts_60 : decode cX12_puts 60 = .ok (.iinc 5 1, 3) := by decide +kernel
theorem dX12_puts_63 : decode cX12_puts 63 = .ok (.goto (-57), 3) := by decide +kernel
theorem dX12_puts_21 : decode cX12_puts 21 = .ok (.if_icmp .ge 12, 3) := by decide +kernel
theorem dX12_puts_33 : decode cX12_puts 33 = .ok (.bipush 31, 2) := by decide +kernel
theorem dX12_puts_24 : decode cX12_puts 24 = .ok (.aload_n 2, 1) := by decide +kernel
theorem dX12_puts_25 : decode cX12_puts 25 = .ok (.iload 5, 2) := by decide +kernel
theorem dX12_puts_27 : decode cX12_puts 27 = .ok (.iconst 5, 1) := by decide +kernel
theorem dX12_puts_28 : decode cX12_puts 28 = .ok (.idiv, 1) := by decide +kernel
theorem dX12_puts_29 : decode cX12_puts 29 = .ok (.iaload, 1) := by decide +kernel
theorem dX12_puts_30 : decode cX12_puts 30 = .ok (.goto 5, 3) := by decide +kernel
theorem dX12_gives_0 : decode cX12_gives 0 = .ok (.aload_n 0, 1) := by decide +kernel
theorem dX12_gives_1 : decode cX12_gives 1 = .ok (.getfield 13, 3) := by decide +kernel
theorem dX12_gives_4 : decode cX12_gives 4 = .ok (.sipush 1048, 3) := by decide +kernel
theorem dX12_gives_7 : decode cX12_gives 7 = .ok (.sipush 257, 3) := by decide +kernel
theorem dX12_gives_10 : decode cX12_gives 10 = .ok (.iload_n 1, 1) := by decide +kernel
theorem dX12_gives_11 : decode cX12_gives 11 = .ok (.imul, 1) := by decide +kernel
theorem dX12_gives_12 : decode cX12_gives 12 = .ok (.iadd, 1) := by decide +kernel
theorem dX12_gives_13 : decode cX12_gives 13 = .ok (.iconst 1, 1) := by decide +kernel
theorem dX12_gives_14 : decode cX12_gives 14 = .ok (.iastore, 1) := by decide +kernel
theorem dX12_gives_15 : decode cX12_gives 15 = .ok (.iconst 0, 1) := by decide +kernel
theorem dX12_gives_16 : decode cX12_gives 16 = .ok (.istore_n 2, 1) := by decide +kernel
theorem dX12_gives_17 : decode cX12_gives 17 = .ok (.iload_n 2, 1) := by decide +kernel
theorem dX12_gives_18 : decode cX12_gives 18 = .ok (.sipush 256, 3) := by decide +kernel
theorem dX12_gives_21 : decode cX12_gives 21 = .ok (.if_icmp .ge 33, 3) := by decide +kernel
theorem dX12_gives_54 : decode cX12_gives 54 = .ok (.return_, 1) := by decide +kernel
theorem dX12_gives_24 : decode cX12_gives 24 = .ok (.aload_n 0, 1) := by decide +kernel
theorem dX12_gives_25 : decode cX12_gives 25 = .ok (.getfield 13, 3) := by decide +kernel
theorem dX12_gives_28 : decode cX12_gives 28 = .ok (.sipush 1048, 3) := by decide +kernel
theorem dX12_gives_31 : decode cX12_gives 31 = .ok (.sipush 257, 3) := by decide +kernel
theorem dX12_gives_34 : decode cX12_gives 34 = .ok (.iload_n 1, 1) := by decide +kernel
theorem dX12_gives_35 : decode cX12_gives 35 = .ok (.imul, 1) := by decide +kernel
theorem dX12_gives_36 : decode cX12_gives 36 = .ok (.iadd, 1) := by decide +kernel
theorem dX12_gives_37 : decode cX12_gives 37 = .ok (.iconst 1, 1) := by decide +kernel
theorem dX12_gives_38 : decode cX12_gives 38 = .ok (.iadd, 1) := by decide +kernel
theorem dX12_gives_39 : decode cX12_gives 39 = .ok (.iload_n 2, 1) := by decide +kernel
theorem dX12_gives_40 : decode cX12_gives 40 = .ok (.iadd, 1) := by decide +kernel
theorem dX12_gives_41 : decode cX12_gives 41 = .ok (.aload_n 0, 1) := by decide +kernel
theorem dX12_gives_42 : decode cX12_gives 42 = .ok (.getfield 37, 3) := by decide +kernel
theorem dX12_gives_45 : decode cX12_gives 45 = .ok (.iload_n 2, 1) := by decide +kernel
theorem dX12_gives_46 : decode cX12_gives 46 = .ok (.iaload, 1) := by decide +kernel
theorem dX12_gives_47 : decode cX12_gives 47 = .ok (.iastore, 1) := by decide +kernel
theorem dX12_gives_48 : decode cX12_gives 48 = .ok (.iinc 2 1, 3) := by decide +kernel
theorem dX12_gives_51 : decode cX12_gives 51 = .ok (.goto (-34), 3) := by decide +kernel
theorem dX12_put_0 : decode cX12_put 0 = .ok (.aload_n 0, 1) := by decide +kernel
theorem dX12_put_1 : decode cX12_put 1 = .ok (.iload_n 1, 1) := by decide +kernel
theorem dX12_put_2 : decode cX12_put 2 = .ok (.iload_n 2, 1) := by decide +kernel
theorem dX12_put_3 : decode cX12_put 3 = .ok (.invokevirtual 357, 3) := by decide +kernel
theorem dX12_put_6 : decode cX12_put 6 = .ok (.istore_n 3, 1) := by decide +kernel
theorem dX12_put_7 : decode cX12_put 7 = .ok (.iload_n 3, 1) := by decide +kernel
theorem dX12_put_8 : decode cX12_put 8 = .ok (.ifCond .ge 5, 3) := by decide +kernel
theorem dX12_put_13 : decode cX12_put 13 = .ok (.aload_n 0, 1) := by decide +kernel
theorem dX12_put_14 : decode cX12_put 14 = .ok (.invokevirtual 360, 3) := by decide +kernel
theorem dX12_put_17 : decode cX12_put 17 = .ok (.istore 4, 2) := by decide +kernel
theorem dX12_put_19 : decode cX12_put 19 = .ok (.iload 4, 2) := by decide +kernel
theorem dX12_put_21 : decode cX12_put 21 = .ok (.iconst (-1), 1) := by decide +kernel
theorem dX12_put_22 : decode cX12_put 22 = .ok (.if_icmp .ne 6, 3) := by decide +kernel
theorem dX12_put_28 : decode cX12_put 28 = .ok (.iconst 5, 1) := by decide +kernel
theorem dX12_put_29 : decode cX12_put 29 = .ok (.iload 4, 2) := by decide +kernel
theorem dX12_put_31 : decode cX12_put 31 = .ok (.iconst 1, 1) := by decide +kernel
theorem dX12_put_32 : decode cX12_put 32 = .ok (.iadd, 1) := by decide +kernel
theorem dX12_put_33 : decode cX12_put 33 = .ok (.imul, 1) := by decide +kernel
theorem dX12_put_34 : decode cX12_put 34 = .ok (.aload_n 0, 1) := by decide +kernel
theorem dX12_put_35 : decode cX12_put 35 = .ok (.iload_n 2, 1) := by decide +kernel
theorem dX12_put_36 : decode cX12_put 36 = .ok (.invokevirtual 241, 3) := by decide +kernel
theorem dX12_put_39 : decode cX12_put 39 = .ok (.if_icmp .le 6, 3) := by decide +kernel
theorem dX12_put_45 : decode cX12_put 45 = .ok (.aload_n 0, 1) := by decide +kernel
theorem dX12_put_46 : decode cX12_put 46 = .ok (.iload_n 1, 1) := by decide +kernel
theorem dX12_put_47 : decode cX12_put 47 = .ok (.invokevirtual 363, 3) := by decide +kernel
theorem dX12_put_50 : decode cX12_put 50 = .ok (.aload_n 0, 1) := by decide +kernel
theorem dX12_put_51 : decode cX12_put 51 = .ok (.iload_n 2, 1) := by decide +kernel
theorem dX12_put_52 : decode cX12_put 52 = .ok (.aload_n 0, 1) := by decide +kernel
theorem dX12_put_53 : decode cX12_put 53 = .ok (.getfield 43, 3) := by decide +kernel
theorem dX12_put_56 : decode cX12_put 56 = .ok (.iload 4, 2) := by decide +kernel
theorem dX12_put_58 : decode cX12_put 58 = .ok (.invokevirtual 366, 3) := by decide +kernel
theorem dX12_put_61 : decode cX12_put 61 = .ok (.istore 5, 2) := by decide +kernel
theorem dX12_put_63 : decode cX12_put 63 = .ok (.aload_n 0, 1) := by decide +kernel
theorem dX12_put_64 : decode cX12_put 64 = .ok (.iload_n 1, 1) := by decide +kernel
theorem dX12_put_65 : decode cX12_put 65 = .ok (.invokevirtual 332, 3) := by decide +kernel
theorem dX12_put_68 : decode cX12_put 68 = .ok (.iload 5, 2) := by decide +kernel
theorem dX12_put_70 : decode cX12_put 70 = .ok (.ireturn, 1) := by decide +kernel
theorem dX12_put_42 : decode cX12_put 42 = .ok (.bipush (-3), 2) := by decide +kernel
theorem dX12_put_44 : decode cX12_put 44 = .ok (.ireturn, 1) := by decide +kernel
theorem dX12_put_25 : decode cX12_put 25 = .ok (.bipush (-4), 2) := by decide +kernel
theorem dX12_put_27 : decode cX12_put 27 = .ok (.ireturn, 1) := by decide +kernel
theorem dX12_put_11 : decode cX12_put 11 = .ok (.iload_n 3, 1) := by decide +kernel
theorem dX12_put_12 : decode cX12_put 12 = .ok (.ireturn, 1) := by decide +kernel
theorem dX12_keep_0 : decode cX12_keep 0 = .ok (.iload_n 1, 1) := by decide +kernel
theorem dX12_keep_1 : decode cX12_keep 1 = .ok (.i2l, 1) := by decide +kernel
theorem dX12_keep_2 : decode cX12_keep 2 = .ok (.lconst 0, 1) := by decide +kernel
theorem dX12_keep_3 : decode cX12_keep 3 = .ok (.ldc2_w 77, 3) := by decide +kernel
theorem dX12_keep_6 : decode cX12_keep 6 = .ok (.invokestatic 79, 3) := by decide +kernel
theorem dX12_keep_9 : decode cX12_keep 9 = .ok (.ifCond .ne 6, 3) := by decide +kernel
theorem dX12_keep_15 : decode cX12_keep 15 = .ok (.iconst 0, 1) := by decide +kernel
theorem dX12_keep_16 : decode cX12_keep 16 = .ok (.istore_n 2, 1) := by decide +kernel
theorem dX12_keep_17 : decode cX12_keep 17 = .ok (.iload_n 2, 1) := by decide +kernel
theorem dX12_keep_18 : decode cX12_keep 18 = .ok (.sipush 2076, 3) := by decide +kernel
theorem dX12_keep_21 : decode cX12_keep 21 = .ok (.if_icmp .ge 27, 3) := by decide +kernel
theorem dX12_keep_48 : decode cX12_keep 48 = .ok (.aload_n 0, 1) := by decide +kernel
theorem dX12_keep_49 : decode cX12_keep 49 = .ok (.getfield 20, 3) := by decide +kernel
theorem dX12_keep_52 : decode cX12_keep 52 = .ok (.iload_n 1, 1) := by decide +kernel
theorem dX12_keep_53 : decode cX12_keep 53 = .ok (.iconst 1, 1) := by decide +kernel
theorem dX12_keep_54 : decode cX12_keep 54 = .ok (.bastore, 1) := by decide +kernel
theorem dX12_keep_55 : decode cX12_keep 55 = .ok (.iconst 0, 1) := by decide +kernel
theorem dX12_keep_56 : decode cX12_keep 56 = .ok (.ireturn, 1) := by decide +kernel
theorem dX12_keep_24 : decode cX12_keep 24 = .ok (.aload_n 0, 1) := by decide +kernel
theorem dX12_keep_25 : decode cX12_keep 25 = .ok (.getfield 17, 3) := by decide +kernel
theorem dX12_keep_28 : decode cX12_keep 28 = .ok (.sipush 2076, 3) := by decide +kernel
theorem dX12_keep_31 : decode cX12_keep 31 = .ok (.iload_n 1, 1) := by decide +kernel
theorem dX12_keep_32 : decode cX12_keep 32 = .ok (.imul, 1) := by decide +kernel
theorem dX12_keep_33 : decode cX12_keep 33 = .ok (.iload_n 2, 1) := by decide +kernel
theorem dX12_keep_34 : decode cX12_keep 34 = .ok (.iadd, 1) := by decide +kernel
theorem dX12_keep_35 : decode cX12_keep 35 = .ok (.aload_n 0, 1) := by decide +kernel
theorem dX12_keep_36 : decode cX12_keep 36 = .ok (.getfield 13, 3) := by decide +kernel
theorem dX12_keep_39 : decode cX12_keep 39 = .ok (.iload_n 2, 1) := by decide +kernel
theorem dX12_keep_40 : decode cX12_keep 40 = .ok (.iaload, 1) := by decide +kernel
theorem dX12_keep_41 : decode cX12_keep 41 = .ok (.iastore, 1) := by decide +kernel
theorem dX12_keep_42 : decode cX12_keep 42 = .ok (.iinc 2 1, 3) := by decide +kernel
theorem dX12_keep_45 : decode cX12_keep 45 = .ok (.goto (-28), 3) := by decide +kernel
theorem dX12_keep_12 : decode cX12_keep 12 = .ok (.bipush (-2), 2) := by decide +kernel
theorem dX12_keep_14 : decode cX12_keep 14 = .ok (.ireturn, 1) := by decide +kernel
theorem dX12_back_0 : decode cX12_back 0 = .ok (.iload_n 1, 1) := by decide +kernel
theorem dX12_back_1 : decode cX12_back 1 = .ok (.i2l, 1) := by decide +kernel
