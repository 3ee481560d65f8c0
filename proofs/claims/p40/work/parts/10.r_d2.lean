theorem dX12_place_47 : decode cX12_place 47 = .ok (.aload_n 0, 1) := by decide +kernel
theorem dX12_place_48 : decode cX12_place 48 = .ok (.getfield 40, 3) := by decide +kernel
theorem dX12_place_51 : decode cX12_place 51 = .ok (.iload_n 2, 1) := by decide +kernel
theorem dX12_place_52 : decode cX12_place 52 = .ok (.iaload, 1) := by decide +kernel
theorem dX12_place_53 : decode cX12_place 53 = .ok (.aload_n 0, 1) := by decide +kernel
theorem dX12_place_54 : decode cX12_place 54 = .ok (.invokevirtual 87, 3) := by decide +kernel
theorem dX12_place_57 : decode cX12_place 57 = .ok (.irem, 1) := by decide +kernel
theorem dX12_place_58 : decode cX12_place 58 = .ok (.iadd, 1) := by decide +kernel
theorem dX12_place_59 : decode cX12_place 59 = .ok (.goto 4, 3) := by decide +kernel
theorem dX12_place_10 : decode cX12_place 10 = .ok (.iload_n 3, 1) := by decide +kernel
theorem dX12_place_11 : decode cX12_place 11 = .ok (.ireturn, 1) := by decide +kernel
theorem dX12_room_0 : decode cX12_room 0 = .ok (.aload_n 0, 1) := by decide +kernel
theorem dX12_room_1 : decode cX12_room 1 = .ok (.iload_n 1, 1) := by decide +kernel
theorem dX12_room_2 : decode cX12_room 2 = .ok (.invokevirtual 383, 3) := by decide +kernel
theorem dX12_room_5 : decode cX12_room 5 = .ok (.istore_n 2, 1) := by decide +kernel
theorem dX12_room_6 : decode cX12_room 6 = .ok (.iload_n 2, 1) := by decide +kernel
theorem dX12_room_7 : decode cX12_room 7 = .ok (.ifCond .ge 7, 3) := by decide +kernel
theorem dX12_room_14 : decode cX12_room 14 = .ok (.aload_n 0, 1) := by decide +kernel
theorem dX12_room_15 : decode cX12_room 15 = .ok (.iload_n 1, 1) := by decide +kernel
theorem dX12_room_16 : decode cX12_room 16 = .ok (.invokevirtual 241, 3) := by decide +kernel
theorem dX12_room_19 : decode cX12_room 19 = .ok (.ireturn, 1) := by decide +kernel
theorem dX12_room_10 : decode cX12_room 10 = .ok (.iload_n 2, 1) := by decide +kernel
theorem dX12_room_11 : decode cX12_room 11 = .ok (.goto 8, 3) := by decide +kernel
theorem dX12_most_0 : decode cX12_most 0 = .ok (.aload_n 0, 1) := by decide +kernel
theorem dX12_most_1 : decode cX12_most 1 = .ok (.iload_n 1, 1) := by decide +kernel
theorem dX12_most_2 : decode cX12_most 2 = .ok (.invokevirtual 383, 3) := by decide +kernel
theorem dX12_most_5 : decode cX12_most 5 = .ok (.istore_n 2, 1) := by decide +kernel
theorem dX12_most_6 : decode cX12_most 6 = .ok (.iload_n 2, 1) := by decide +kernel
theorem dX12_most_7 : decode cX12_most 7 = .ok (.ifCond .ge 7, 3) := by decide +kernel
theorem dX12_most_14 : decode cX12_most 14 = .ok (.iconst 0, 1) := by decide +kernel
theorem dX12_most_15 : decode cX12_most 15 = .ok (.aload_n 0, 1) := by decide +kernel
theorem dX12_most_16 : decode cX12_most 16 = .ok (.iload_n 1, 1) := by decide +kernel
theorem dX12_most_17 : decode cX12_most 17 = .ok (.invokevirtual 241, 3) := by decide +kernel
theorem dX12_most_20 : decode cX12_most 20 = .ok (.iconst 5, 1) := by decide +kernel
theorem dX12_most_21 : decode cX12_most 21 = .ok (.idiv, 1) := by decide +kernel
theorem dX12_most_22 : decode cX12_most 22 = .ok (.iconst 1, 1) := by decide +kernel
theorem dX12_most_23 : decode cX12_most 23 = .ok (.isub, 1) := by decide +kernel
theorem dX12_most_24 : decode cX12_most 24 = .ok (.invokestatic 386, 3) := by decide +kernel
theorem dX12_most_27 : decode cX12_most 27 = .ok (.ireturn, 1) := by decide +kernel
theorem dX12_most_10 : decode cX12_most 10 = .ok (.iload_n 2, 1) := by decide +kernel
theorem dX12_most_11 : decode cX12_most 11 = .ok (.goto 16, 3) := by decide +kernel
theorem dX12_countAll_0 : decode cX12_countAll 0 = .ok (.iconst 0, 1) := by decide +kernel
theorem dX12_countAll_1 : decode cX12_countAll 1 = .ok (.istore_n 1, 1) := by decide +kernel
theorem dX12_countAll_2 : decode cX12_countAll 2 = .ok (.iload_n 1, 1) := by decide +kernel
theorem dX12_countAll_3 : decode cX12_countAll 3 = .ok (.bipush 8, 2) := by decide +kernel
theorem dX12_countAll_5 : decode cX12_countAll 5 = .ok (.if_icmp .ge 16, 3) := by decide +kernel
theorem dX12_countAll_21 : decode cX12_countAll 21 = .ok (.aload_n 0, 1) := by decide +kernel
theorem dX12_countAll_22 : decode cX12_countAll 22 = .ok (.getfield 55, 3) := by decide +kernel
theorem dX12_countAll_25 : decode cX12_countAll 25 = .ok (.iconst 5, 1) := by decide +kernel
theorem dX12_countAll_26 : decode cX12_countAll 26 = .ok (.sipush 256, 3) := by decide +kernel
theorem dX12_countAll_29 : decode cX12_countAll 29 = .ok (.iastore, 1) := by decide +kernel
theorem dX12_countAll_30 : decode cX12_countAll 30 = .ok (.iconst 4, 1) := by decide +kernel
theorem dX12_countAll_31 : decode cX12_countAll 31 = .ok (.istore_n 1, 1) := by decide +kernel
theorem dX12_countAll_32 : decode cX12_countAll 32 = .ok (.iconst 0, 1) := by decide +kernel
theorem dX12_countAll_33 : decode cX12_countAll 33 = .ok (.istore_n 2, 1) := by decide +kernel
theorem dX12_countAll_34 : decode cX12_countAll 34 = .ok (.iload_n 2, 1) := by decide +kernel
theorem dX12_countAll_35 : decode cX12_countAll 35 = .ok (.aload_n 0, 1) := by decide +kernel
theorem dX12_countAll_36 : decode cX12_countAll 36 = .ok (.invokevirtual 83, 3) := by decide +kernel
theorem dX12_countAll_39 : decode cX12_countAll 39 = .ok (.if_icmp .ge 217, 3) := by decide +kernel
theorem dX12_countAll_256 : decode cX12_countAll 256 = .ok (.return_, 1) := by decide +kernel
theorem dX12_countAll_42 : decode cX12_countAll 42 = .ok (.iconst 0, 1) := by decide +kernel
theorem dX12_countAll_43 : decode cX12_countAll 43 = .ok (.istore_n 3, 1) := by decide +kernel
theorem dX12_countAll_44 : decode cX12_countAll 44 = .ok (.iconst 0, 1) := by decide +kernel
theorem dX12_countAll_45 : decode cX12_countAll 45 = .ok (.istore 4, 2) := by decide +kernel
theorem dX12_countAll_47 : decode cX12_countAll 47 = .ok (.iload 4, 2) := by decide +kernel
theorem dX12_countAll_49 : decode cX12_countAll 49 = .ok (.aload_n 0, 1) := by decide +kernel
theorem dX12_countAll_50 : decode cX12_countAll 50 = .ok (.invokevirtual 87, 3) := by decide +kernel
theorem dX12_countAll_53 : decode cX12_countAll 53 = .ok (.if_icmp .ge 165, 3) := by decide +kernel
theorem dX12_countAll_218 : decode cX12_countAll 218 = .ok (.aload_n 0, 1) := by decide +kernel
theorem dX12_countAll_219 : decode cX12_countAll 219 = .ok (.getfield 55, 3) := by decide +kernel
theorem dX12_countAll_222 : decode cX12_countAll 222 = .ok (.iconst 4, 1) := by decide +kernel
theorem dX12_countAll_223 : decode cX12_countAll 223 = .ok (.aload_n 0, 1) := by decide +kernel
theorem dX12_countAll_224 : decode cX12_countAll 224 = .ok (.getfield 55, 3) := by decide +kernel
theorem dX12_countAll_227 : decode cX12_countAll 227 = .ok (.iconst 4, 1) := by decide +kernel
theorem dX12_countAll_228 : decode cX12_countAll 228 = .ok (.iaload, 1) := by decide +kernel
theorem dX12_countAll_229 : decode cX12_countAll 229 = .ok (.iload_n 3, 1) := by decide +kernel
theorem dX12_countAll_230 : decode cX12_countAll 230 = .ok (.invokestatic 386, 3) := by decide +kernel
theorem dX12_countAll_233 : decode cX12_countAll 233 = .ok (.iastore, 1) := by decide +kernel
theorem dX12_countAll_234 : decode cX12_countAll 234 = .ok (.aload_n 0, 1) := by decide +kernel
theorem dX12_countAll_235 : decode cX12_countAll 235 = .ok (.getfield 55, 3) := by decide +kernel
theorem dX12_countAll_238 : decode cX12_countAll 238 = .ok (.iconst 5, 1) := by decide +kernel
theorem dX12_countAll_239 : decode cX12_countAll 239 = .ok (.aload_n 0, 1) := by decide +kernel
theorem dX12_countAll_240 : decode cX12_countAll 240 = .ok (.getfield 55, 3) := by decide +kernel
theorem dX12_countAll_243 : decode cX12_countAll 243 = .ok (.iconst 5, 1) := by decide +kernel
theorem dX12_countAll_244 : decode cX12_countAll 244 = .ok (.iaload, 1) := by decide +kernel
theorem dX12_countAll_245 : decode cX12_countAll 245 = .ok (.iload_n 3, 1) := by decide +kernel
theorem dX12_countAll_246 : decode cX12_countAll 246 = .ok (.invokestatic 134, 3) := by decide +kernel
theorem dX12_countAll_249 : decode cX12_countAll 249 = .ok (.iastore, 1) := by decide +kernel
theorem dX12_countAll_250 : decode cX12_countAll 250 = .ok (.iinc 2 1, 3) := by decide +kernel
theorem dX12_countAll_253 : decode cX12_countAll 253 = .ok (.goto (-219), 3) := by decide +kernel
theorem dX12_countAll_56 : decode cX12_countAll 56 = .ok (.iload_n 2, 1) := by decide +kernel
theorem dX12_countAll_57 : decode cX12_countAll 57 = .ok (.aload_n 0, 1) := by decide +kernel
theorem dX12_countAll_58 : decode cX12_countAll 58 = .ok (.invokevirtual 87, 3) := by decide +kernel
theorem dX12_countAll_61 : decode cX12_countAll 61 = .ok (.imul, 1) := by decide +kernel
theorem dX12_countAll_62 : decode cX12_countAll 62 = .ok (.iload 4, 2) := by decide +kernel
theorem dX12_countAll_64 : decode cX12_countAll 64 = .ok (.iadd, 1) := by decide +kernel
theorem dX12_countAll_65 : decode cX12_countAll 65 = .ok (.istore 5, 2) := by decide +kernel
theorem dX12_countAll_67 : decode cX12_countAll 67 = .ok (.aload_n 0, 1) := by decide +kernel
theorem dX12_countAll_68 : decode cX12_countAll 68 = .ok (.getfield 37, 3) := by decide +kernel
theorem dX12_countAll_71 : decode cX12_countAll 71 = .ok (.iload 5, 2) := by decide +kernel
theorem dX12_countAll_73 : decode cX12_countAll 73 = .ok (.iaload, 1) := by decide +kernel
theorem dX12_countAll_74 : decode cX12_countAll 74 = .ok (.istore 6, 2) := by decide +kernel
theorem dX12_countAll_76 : decode cX12_countAll 76 = .ok (.aload_n 0, 1) := by decide +kernel
theorem dX12_countAll_77 : decode cX12_countAll 77 = .ok (.getfield 55, 3) := by decide +kernel
theorem dX12_countAll_80 : decode cX12_countAll 80 = .ok (.bipush 6, 2) := by decide +kernel
theorem dX12_countAll_82 : decode cX12_countAll 82 = .ok (.dup2, 1) := by decide +kernel
theorem dX12_countAll_83 : decode cX12_countAll 83 = .ok (.iaload, 1) := by decide +kernel
theorem dX12_countAll_84 : decode cX12_countAll 84 = .ok (.iload 6, 2) := by decide +kernel
theorem dX12_countAll_86 : decode cX12_countAll 86 = .ok (.iconst 4, 1) := by decide +kernel
theorem dX12_countAll_95 : decode cX12_countAll 95 = .ok (.iadd, 1) := by decide +kernel
theorem dX12_countAll_96 : decode cX12_countAll 96 = .ok (.iastore, 1) := by decide +kernel
theorem dX12_countAll_97 : decode cX12_countAll 97 = .ok (.aload_n 0, 1) := by decide +kernel
theorem dX12_countAll_98 : decode cX12_countAll 98 = .ok (.iload 5, 2) := by decide +kernel
theorem dX12_countAll_100 : decode cX12_countAll 100 = .ok (.invokevirtual 206, 3) := by decide +kernel
theorem dX12_countAll_103 : decode cX12_countAll 103 = .ok (.ifCond .ne 6, 3) := by decide +kernel
theorem dX12_countAll_109 : decode cX12_countAll 109 = .ok (.aload_n 0, 1) := by decide +kernel
theorem dX12_countAll_110 : decode cX12_countAll 110 = .ok (.getfield 55, 3) := by decide +kernel
theorem dX12_countAll_113 : decode cX12_countAll 113 = .ok (.bipush 7, 2) := by decide +kernel
theorem dX12_countAll_115 : decode cX12_countAll 115 = .ok (.dup2, 1) := by decide +kernel
theorem dX12_countAll_116 : decode cX12_countAll 116 = .ok (.iaload, 1) := by decide +kernel
theorem dX12_countAll_117 : decode cX12_countAll 117 = .ok (.iconst 1, 1) := by decide +kernel
theorem dX12_countAll_118 : decode cX12_countAll 118 = .ok (.iadd, 1) := by decide +kernel
theorem dX12_countAll_119 : decode cX12_countAll 119 = .ok (.iastore, 1) := by decide +kernel
theorem dX12_countAll_120 : decode cX12_countAll 120 = .ok (.iload_n 3, 1) := by decide +kernel
theorem dX12_countAll_121 : decode cX12_countAll 121 = .ok (.iload 6, 2) := by decide +kernel
theorem dX12_countAll_137 : decode cX12_countAll 137 = .ok (.iadd, 1) := by decide +kernel
theorem dX12_countAll_138 : decode cX12_countAll 138 = .ok (.istore_n 3, 1) := by decide +kernel
theorem dX12_countAll_139 : decode cX12_countAll 139 = .ok (.iload 6, 2) := by decide +kernel
theorem dX12_countAll_141 : decode cX12_countAll 141 = .ok (.i2l, 1) := by decide +kernel
theorem dX12_countAll_142 : decode cX12_countAll 142 = .ok (.lconst 1, 1) := by decide +kernel
theorem dX12_countAll_143 : decode cX12_countAll 143 = .ok (.ldc2_w 90, 3) := by decide +kernel
theorem dX12_countAll_146 : decode cX12_countAll 146 = .ok (.invokestatic 79, 3) := by decide +kernel
theorem dX12_countAll_165 : decode cX12_countAll 165 = .ok (.aload_n 0, 1) := by decide +kernel
theorem dX12_countAll_166 : decode cX12_countAll 166 = .ok (.iload 5, 2) := by decide +kernel
theorem dX12_countAll_168 : decode cX12_countAll 168 = .ok (.invokevirtual 98, 3) := by decide +kernel
theorem dX12_countAll_171 : decode cX12_countAll 171 = .ok (.iconst 2, 1) := by decide +kernel
theorem dX12_countAll_172 : decode cX12_countAll 172 = .ok (.if_icmp .eq 6, 3) := by decide +kernel
theorem dX12_countAll_178 : decode cX12_countAll 178 = .ok (.aload_n 0, 1) := by decide +kernel
theorem dX12_countAll_179 : decode cX12_countAll 179 = .ok (.getfield 55, 3) := by decide +kernel
theorem dX12_countAll_182 : decode cX12_countAll 182 = .ok (.iconst 3, 1) := by decide +kernel
theorem dX12_countAll_183 : decode cX12_countAll 183 = .ok (.dup2, 1) := by decide +kernel
theorem dX12_countAll_184 : decode cX12_countAll 184 = .ok (.iaload, 1) := by decide +kernel
theorem dX12_countAll_185 : decode cX12_countAll 185 = .ok (.iload 6, 2) := by decide +kernel
theorem dX12_countAll_187 : decode cX12_countAll 187 = .ok (.iconst 4, 1) := by decide +kernel
theorem dX12_countAll_188 : decode cX12_countAll 188 = .ok (.if_icmp .eq 18, 3) := by decide +kernel
theorem dX12_countAll_206 : decode cX12_countAll 206 = .ok (.iconst 0, 1) := by decide +kernel
theorem dX12_countAll_207 : decode cX12_countAll 207 = .ok (.iadd, 1) := by decide +kernel
theorem dX12_countAll_208 : decode cX12_countAll 208 = .ok (.iastore, 1) := by decide +kernel
theorem dX12_countAll_209 : decode cX12_countAll 209 = .ok (.iload 6, 2) := by decide +kernel
theorem dX12_countAll_211 : decode cX12_countAll 211 = .ok (.istore_n 1, 1) := by decide +kernel
theorem dX12_countAll_212 : decode cX12_countAll 212 = .ok (.iinc 4 1, 3) := by decide +kernel
theorem dX12_countAll_215 : decode cX12_countAll 215 = .ok (.goto (-168), 3) := by decide +kernel
theorem dX12_countAll_191 : decode cX12_countAll 191 = .ok (.iload_n 1, 1) := by decide +kernel
theorem dX12_countAll_192 : decode cX12_countAll 192 = .ok (.iconst 4, 1) := by decide +kernel
theorem dX12_countAll_193 : decode cX12_countAll 193 = .ok (.if_icmp .eq 13, 3) := by decide +kernel
theorem dX12_countAll_196 : decode cX12_countAll 196 = .ok (.iload 6, 2) := by decide +kernel
theorem dX12_countAll_198 : decode cX12_countAll 198 = .ok (.iload_n 1, 1) := by decide +kernel
theorem dX12_countAll_199 : decode cX12_countAll 199 = .ok (.if_icmp .eq 7, 3) := by decide +kernel
theorem dX12_countAll_202 : decode cX12_countAll 202 = .ok (.iconst 1, 1) := by decide +kernel
theorem dX12_countAll_203 : decode cX12_countAll 203 = .ok (.goto 4, 3) := by decide +kernel
theorem dX12_countAll_175 : decode cX12_countAll 175 = .ok (.goto 37, 3) := by decide +kernel
theorem dX12_countAll_149 : decode cX12_countAll 149 = .ok (.ifCond .eq 16, 3) := by decide +kernel
theorem dX12_countAll_152 : decode cX12_countAll 152 = .ok (.aload_n 0, 1) := by decide +kernel
theorem dX12_countAll_153 : decode cX12_countAll 153 = .ok (.getfield 55, 3) := by decide +kernel
theorem dX12_countAll_156 : decode cX12_countAll 156 = .ok (.iload 6, 2) := by decide +kernel
theorem dX12_countAll_158 : decode cX12_countAll 158 = .ok (.iconst 1, 1) := by decide +kernel
theorem dX12_countAll_159 : decode cX12_countAll 159 = .ok (.isub, 1) := by decide +kernel
theorem dX12_countAll_160 : decode cX12_countAll 160 = .ok (.dup2, 1) := by decide +kernel
theorem dX12_countAll_161 : decode cX12_countAll 161 = .ok (.iaload, 1) := by decide +kernel
theorem dX12_countAll_162 : decode cX12_countAll 162 = .ok (.iconst 1, 1) := by decide +kernel
theorem dX12_countAll_163 : decode cX12_countAll 163 = .ok (.iadd, 1) := by decide +kernel
theorem dX12_countAll_164 : decode cX12_countAll 164 = .ok (.iastore, 1) := by decide +kernel
theorem dX12_countAll_123 : decode cX12_countAll 123 = .ok (.ifCond .eq 13, 3) := by decide +kernel
theorem dX12_countAll_136 : decode cX12_countAll 136 = .ok (.iconst 0, 1) := by decide +kernel
theorem dX12_countAll_126 : decode cX12_countAll 126 = .ok (.iload 6, 2) := by decide +kernel
theorem dX12_countAll_128 : decode cX12_countAll 128 = .ok (.iconst 4, 1) := by decide +kernel
theorem dX12_countAll_129 : decode cX12_countAll 129 = .ok (.if_icmp .eq 7, 3) := by decide +kernel
theorem dX12_countAll_132 : decode cX12_countAll 132 = .ok (.iconst 1, 1) := by decide +kernel
theorem dX12_countAll_133 : decode cX12_countAll 133 = .ok (.goto 4, 3) := by decide +kernel
theorem dX12_countAll_106 : decode cX12_countAll 106 = .ok (.goto 106, 3) := by decide +kernel
theorem dX12_countAll_87 : decode cX12_countAll 87 = .ok (.if_icmp .ne 7, 3) := by decide +kernel
theorem dX12_countAll_94 : decode cX12_countAll 94 = .ok (.iconst 0, 1) := by decide +kernel
theorem dX12_countAll_90 : decode cX12_countAll 90 = .ok (.iconst 1, 1) := by decide +kernel
theorem dX12_countAll_91 : decode cX12_countAll 91 = .ok (.goto 4, 3) := by decide +kernel
theorem dX12_countAll_8 : decode cX12_countAll 8 = .ok (.aload_n 0, 1) := by decide +kernel
theorem dX12_countAll_9 : decode cX12_countAll 9 = .ok (.getfield 55, 3) := by decide +kernel
theorem dX12_countAll_12 : decode cX12_countAll 12 = .ok (.iload_n 1, 1) := by decide +kernel
theorem dX12_countAll_13 : decode cX12_countAll 13 = .ok (.iconst 0, 1) := by decide +kernel
theorem dX12_countAll_14 : decode cX12_countAll 14 = .ok (.iastore, 1) := by decide +kernel
theorem dX12_countAll_15 : decode cX12_countAll 15 = .ok (.iinc 1 1, 3) := by decide +kernel
theorem dX12_countAll_18 : decode cX12_countAll 18 = .ok (.goto (-16), 3) := by decide +kernel
theorem dX12_counts_0 : decode cX12_counts 0 = .ok (.iload_n 1, 1) := by decide +kernel
theorem dX12_counts_1 : decode cX12_counts 1 = .ok (.invokestatic 319, 3) := by decide +kernel
theorem dX12_counts_4 : decode cX12_counts 4 = .ok (.ifCond .eq 15, 3) := by decide +kernel
theorem dX12_counts_19 : decode cX12_counts 19 = .ok (.bipush (-2), 2) := by decide +kernel
theorem dX12_counts_21 : decode cX12_counts 21 = .ok (.ireturn, 1) := by decide +kernel
theorem dX12_counts_7 : decode cX12_counts 7 = .ok (.iload_n 2, 1) := by decide +kernel
theorem dX12_counts_8 : decode cX12_counts 8 = .ok (.i2l, 1) := by decide +kernel
theorem dX12_counts_9 : decode cX12_counts 9 = .ok (.lconst 0, 1) := by decide +kernel
theorem dX12_counts_10 : decode cX12_counts 10 = .ok (.ldc2_w 389, 3) := by decide +kernel
theorem dX12_counts_13 : decode cX12_counts 13 = .ok (.invokestatic 79, 3) := by decide +kernel
theorem dX12_counts_16 : decode cX12_counts 16 = .ok (.ifCond .ne 6, 3) := by decide +kernel
theorem dX12_counts_22 : decode cX12_counts 22 = .ok (.aload_n 0, 1) := by decide +kernel
theorem dX12_counts_23 : decode cX12_counts 23 = .ok (.iload_n 1, 1) := by decide +kernel
theorem dX12_counts_24 : decode cX12_counts 24 = .ok (.invokevirtual 351, 3) := by decide +kernel
theorem dX12_counts_27 : decode cX12_counts 27 = .ok (.ifCond .ne 6, 3) := by decide +kernel
theorem dX12_counts_33 : decode cX12_counts 33 = .ok (.aload_n 0, 1) := by decide +kernel
theorem dX12_counts_34 : decode cX12_counts 34 = .ok (.iload_n 1, 1) := by decide +kernel
theorem dX12_counts_35 : decode cX12_counts 35 = .ok (.invokevirtual 363, 3) := by decide +kernel
theorem dX12_counts_38 : decode cX12_counts 38 = .ok (.aload_n 0, 1) := by decide +kernel
theorem dX12_counts_39 : decode cX12_counts 39 = .ok (.invokevirtual 391, 3) := by decide +kernel
theorem dX12_counts_42 : decode cX12_counts 42 = .ok (.aload_n 0, 1) := by decide +kernel
theorem dX12_counts_43 : decode cX12_counts 43 = .ok (.getfield 55, 3) := by decide +kernel
theorem dX12_counts_46 : decode cX12_counts 46 = .ok (.iload_n 2, 1) := by decide +kernel
theorem dX12_counts_47 : decode cX12_counts 47 = .ok (.iaload, 1) := by decide +kernel
theorem dX12_counts_48 : decode cX12_counts 48 = .ok (.ireturn, 1) := by decide +kernel
theorem dX12_counts_30 : decode cX12_counts 30 = .ok (.bipush (-6), 2) := by decide +kernel
theorem dX12_counts_32 : decode cX12_counts 32 = .ok (.ireturn, 1) := by decide +kernel
theorem dX12_partOf_0 : decode cX12_partOf 0 = .ok (.aload_n 0, 1) := by decide +kernel
theorem dX12_partOf_1 : decode cX12_partOf 1 = .ok (.getfield 13, 3) := by decide +kernel
theorem dX12_partOf_4 : decode cX12_partOf 4 = .ok (.sipush 562, 3) := by decide +kernel
theorem dX12_partOf_7 : decode cX12_partOf 7 = .ok (.iconst 3, 1) := by decide +kernel
theorem dX12_partOf_8 : decode cX12_partOf 8 = .ok (.iload_n 1, 1) := by decide +kernel
theorem dX12_partOf_9 : decode cX12_partOf 9 = .ok (.imul, 1) := by decide +kernel
theorem dX12_partOf_10 : decode cX12_partOf 10 = .ok (.iadd, 1) := by decide +kernel
theorem dX12_partOf_11 : decode cX12_partOf 11 = .ok (.iconst 1, 1) := by decide +kernel
theorem dX12_partOf_12 : decode cX12_partOf 12 = .ok (.iadd, 1) := by decide +kernel
theorem dX12_partOf_13 : decode cX12_partOf 13 = .ok (.iaload, 1) := by decide +kernel
theorem dX12_partOf_14 : decode cX12_partOf 14 = .ok (.istore_n 2, 1) := by decide +kernel
theorem dX12_partOf_15 : decode cX12_partOf 15 = .ok (.iload_n 2, 1) := by decide +kernel
theorem dX12_partOf_16 : decode cX12_partOf 16 = .ok (.bipush 8, 2) := by decide +kernel
theorem dX12_partOf_18 : decode cX12_partOf 18 = .ok (.if_icmp .ne 21, 3) := by decide +kernel
theorem dX12_partOf_39 : decode cX12_partOf 39 = .ok (.aload_n 0, 1) := by decide +kernel
theorem dX12_partOf_40 : decode cX12_partOf 40 = .ok (.getfield 55, 3) := by decide +kernel
theorem dX12_partOf_43 : decode cX12_partOf 43 = .ok (.iload_n 2, 1) := by decide +kernel
theorem dX12_partOf_44 : decode cX12_partOf 44 = .ok (.iaload, 1) := by decide +kernel
theorem dX12_partOf_45 : decode cX12_partOf 45 = .ok (.i2l, 1) := by decide +kernel
theorem dX12_partOf_46 : decode cX12_partOf 46 = .ok (.lreturn, 1) := by decide +kernel
theorem dX12_partOf_21 : decode cX12_partOf 21 = .ok (.aload_n 0, 1) := by decide +kernel
theorem dX12_partOf_22 : decode cX12_partOf 22 = .ok (.getfield 13, 3) := by decide +kernel
theorem dX12_partOf_25 : decode cX12_partOf 25 = .ok (.sipush 562, 3) := by decide +kernel
theorem dX12_partOf_28 : decode cX12_partOf 28 = .ok (.iconst 3, 1) := by decide +kernel
theorem dX12_partOf_29 : decode cX12_partOf 29 = .ok (.iload_n 1, 1) := by decide +kernel
theorem dX12_partOf_30 : decode cX12_partOf 30 = .ok (.imul, 1) := by decide +kernel
theorem dX12_partOf_31 : decode cX12_partOf 31 = .ok (.iadd, 1) := by decide +kernel
theorem dX12_partOf_32 : decode cX12_partOf 32 = .ok (.iconst 2, 1) := by decide +kernel
theorem dX12_partOf_33 : decode cX12_partOf 33 = .ok (.iadd, 1) := by decide +kernel
theorem dX12_partOf_34 : decode cX12_partOf 34 = .ok (.iaload, 1) := by decide +kernel
theorem dX12_partOf_35 : decode cX12_partOf 35 = .ok (.i2l, 1) := by decide +kernel
theorem dX12_partOf_36 : decode cX12_partOf 36 = .ok (.goto 10, 3) := by decide +kernel
theorem dX12_holds_0 : decode cX12_holds 0 = .ok (.aload_n 0, 1) := by decide +kernel
theorem dX12_holds_1 : decode cX12_holds 1 = .ok (.getfield 13, 3) := by decide +kernel
theorem dX12_holds_4 : decode cX12_holds 4 = .ok (.sipush 162, 3) := by decide +kernel
theorem dX12_holds_7 : decode cX12_holds 7 = .ok (.iconst 4, 1) := by decide +kernel
theorem dX12_holds_8 : decode cX12_holds 8 = .ok (.iload_n 1, 1) := by decide +kernel
theorem dX12_holds_9 : decode cX12_holds 9 = .ok (.imul, 1) := by decide +kernel
theorem dX12_holds_10 : decode cX12_holds 10 = .ok (.iadd, 1) := by decide +kernel
theorem dX12_holds_11 : decode cX12_holds 11 = .ok (.iconst 1, 1) := by decide +kernel
theorem dX12_holds_12 : decode cX12_holds 12 = .ok (.iadd, 1) := by decide +kernel
theorem dX12_holds_13 : decode cX12_holds 13 = .ok (.iaload, 1) := by decide +kernel
theorem dX12_holds_14 : decode cX12_holds 14 = .ok (.istore_n 2, 1) := by decide +kernel
theorem dX12_holds_15 : decode cX12_holds 15 = .ok (.iload_n 2, 1) := by decide +kernel
theorem dX12_holds_16 : decode cX12_holds 16 = .ok (.aload_n 0, 1) := by decide +kernel
theorem dX12_holds_17 : decode cX12_holds 17 = .ok (.getfield 13, 3) := by decide +kernel
theorem dX12_holds_20 : decode cX12_holds 20 = .ok (.sipush 162, 3) := by decide +kernel
theorem dX12_holds_23 : decode cX12_holds 23 = .ok (.iconst 4, 1) := by decide +kernel
theorem dX12_holds_24 : decode cX12_holds 24 = .ok (.iload_n 1, 1) := by decide +kernel
theorem dX12_holds_25 : decode cX12_holds 25 = .ok (.imul, 1) := by decide +kernel
theorem dX12_holds_26 : decode cX12_holds 26 = .ok (.iadd, 1) := by decide +kernel
theorem dX12_holds_27 : decode cX12_holds 27 = .ok (.iconst 2, 1) := by decide +kernel
theorem dX12_holds_28 : decode cX12_holds 28 = .ok (.iadd, 1) := by decide +kernel
theorem dX12_holds_29 : decode cX12_holds 29 = .ok (.iaload, 1) := by decide +kernel
theorem dX12_holds_30 : decode cX12_holds 30 = .ok (.iadd, 1) := by decide +kernel
theorem dX12_holds_31 : decode cX12_holds 31 = .ok (.istore_n 3, 1) := by decide +kernel
theorem dX12_holds_32 : decode cX12_holds 32 = .ok (.lconst 0, 1) := by decide +kernel
theorem dX12_holds_33 : decode cX12_holds 33 = .ok (.lstore 4, 2) := by decide +kernel
theorem dX12_holds_35 : decode cX12_holds 35 = .ok (.lconst 0, 1) := by decide +kernel
theorem dX12_holds_36 : decode cX12_holds 36 = .ok (.lstore 6, 2) := by decide +kernel
theorem dX12_holds_38 : decode cX12_holds 38 = .ok (.iload_n 2, 1) := by decide +kernel
theorem dX12_holds_39 : decode cX12_holds 39 = .ok (.iload_n 3, 1) := by decide +kernel
theorem dX12_holds_40 : decode cX12_holds 40 = .ok (.if_icmp .ge 133, 3) := by decide +kernel
theorem dX12_holds_173 : decode cX12_holds 173 = .ok (.aload_n 0, 1) := by decide +kernel
theorem dX12_holds_174 : decode cX12_holds 174 = .ok (.getfield 13, 3) := by decide +kernel
theorem dX12_holds_177 : decode cX12_holds 177 = .ok (.sipush 162, 3) := by decide +kernel
theorem dX12_holds_180 : decode cX12_holds 180 = .ok (.iconst 4, 1) := by decide +kernel
theorem dX12_holds_181 : decode cX12_holds 181 = .ok (.iload_n 1, 1) := by decide +kernel
theorem dX12_holds_182 : decode cX12_holds 182 = .ok (.imul, 1) := by decide +kernel
theorem dX12_holds_183 : decode cX12_holds 183 = .ok (.iadd, 1) := by decide +kernel
theorem dX12_holds_184 : decode cX12_holds 184 = .ok (.iconst 3, 1) := by decide +kernel
theorem dX12_holds_185 : decode cX12_holds 185 = .ok (.iadd, 1) := by decide +kernel
theorem dX12_holds_186 : decode cX12_holds 186 = .ok (.iaload, 1) := by decide +kernel
theorem dX12_holds_187 : decode cX12_holds 187 = .ok (.istore 8, 2) := by decide +kernel
theorem dX12_holds_189 : decode cX12_holds 189 = .ok (.iload 8, 2) := by decide +kernel
theorem dX12_holds_191 : decode cX12_holds 191 = .ok (.ifCond .ne 19, 3) := by decide +kernel
theorem dX12_holds_210 : decode cX12_holds 210 = .ok (.iload 8, 2) := by decide +kernel
theorem dX12_holds_212 : decode cX12_holds 212 = .ok (.iconst 1, 1) := by decide +kernel
theorem dX12_holds_213 : decode cX12_holds 213 = .ok (.if_icmp .ne 19, 3) := by decide +kernel
theorem dX12_holds_232 : decode cX12_holds 232 = .ok (.lload 4, 2) := by decide +kernel
theorem dX12_holds_234 : decode cX12_holds 234 = .ok (.lload 6, 2) := by decide +kernel
theorem dX12_holds_236 : decode cX12_holds 236 = .ok (.lcmp, 1) := by decide +kernel
theorem dX12_holds_237 : decode cX12_holds 237 = .ok (.ifCond .ne 7, 3) := by decide +kernel
theorem dX12_holds_244 : decode cX12_holds 244 = .ok (.iconst 0, 1) := by decide +kernel
theorem dX12_holds_245 : decode cX12_holds 245 = .ok (.ireturn, 1) := by decide +kernel
theorem dX12_holds_240 : decode cX12_holds 240 = .ok (.iconst 1, 1) := by decide +kernel
theorem dX12_holds_241 : decode cX12_holds 241 = .ok (.goto 4, 3) := by decide +kernel
theorem dX12_holds_216 : decode cX12_holds 216 = .ok (.lload 4, 2) := by decide +kernel
theorem dX12_holds_218 : decode cX12_holds 218 = .ok (.lload 6, 2) := by decide +kernel
theorem dX12_holds_220 : decode cX12_holds 220 = .ok (.lcmp, 1) := by decide +kernel
theorem dX12_holds_221 : decode cX12_holds 221 = .ok (.ifCond .ge 7, 3) := by decide +kernel
theorem dX12_holds_228 : decode cX12_holds 228 = .ok (.iconst 0, 1) := by decide +kernel
theorem dX12_holds_229 : decode cX12_holds 229 = .ok (.goto 16, 3) := by decide +kernel
theorem dX12_holds_224 : decode cX12_holds 224 = .ok (.iconst 1, 1) := by decide +kernel
theorem dX12_holds_225 : decode cX12_holds 225 = .ok (.goto 20, 3) := by decide +kernel
theorem dX12_holds_194 : decode cX12_holds 194 = .ok (.lload 4, 2) := by decide +kernel
theorem dX12_holds_196 : decode cX12_holds 196 = .ok (.lload 6, 2) := by decide +kernel
theorem dX12_holds_198 : decode cX12_holds 198 = .ok (.lcmp, 1) := by decide +kernel
theorem dX12_holds_199 : decode cX12_holds 199 = .ok (.ifCond .le 7, 3) := by decide +kernel
theorem dX12_holds_206 : decode cX12_holds 206 = .ok (.iconst 0, 1) := by decide +kernel
theorem dX12_holds_207 : decode cX12_holds 207 = .ok (.goto 38, 3) := by decide +kernel
theorem dX12_holds_202 : decode cX12_holds 202 = .ok (.iconst 1, 1) := by decide +kernel
theorem dX12_holds_203 : decode cX12_holds 203 = .ok (.goto 42, 3) := by decide +kernel
theorem dX12_holds_43 : decode cX12_holds 43 = .ok (.aload_n 0, 1) := by decide +kernel
theorem dX12_holds_44 : decode cX12_holds 44 = .ok (.getfield 13, 3) := by decide +kernel
theorem dX12_holds_47 : decode cX12_holds 47 = .ok (.sipush 562, 3) := by decide +kernel
theorem dX12_holds_50 : decode cX12_holds 50 = .ok (.iconst 3, 1) := by decide +kernel
theorem dX12_holds_51 : decode cX12_holds 51 = .ok (.iload_n 2, 1) := by decide +kernel
theorem dX12_holds_52 : decode cX12_holds 52 = .ok (.imul, 1) := by decide +kernel
theorem dX12_holds_53 : decode cX12_holds 53 = .ok (.iadd, 1) := by decide +kernel
theorem dX12_holds_54 : decode cX12_holds 54 = .ok (.iaload, 1) := by decide +kernel
theorem dX12_holds_55 : decode cX12_holds 55 = .ok (.istore 8, 2) := by decide +kernel
theorem dX12_holds_57 : decode cX12_holds 57 = .ok (.aload_n 0, 1) := by decide +kernel
theorem dX12_holds_58 : decode cX12_holds 58 = .ok (.iload_n 2, 1) := by decide +kernel
theorem dX12_holds_59 : decode cX12_holds 59 = .ok (.invokevirtual 394, 3) := by decide +kernel
theorem dX12_holds_62 : decode cX12_holds 62 = .ok (.lstore 9, 2) := by decide +kernel
theorem dX12_holds_64 : decode cX12_holds 64 = .ok (.iinc 2 1, 3) := by decide +kernel
theorem dX12_holds_67 : decode cX12_holds 67 = .ok (.iload_n 2, 1) := by decide +kernel
theorem dX12_holds_68 : decode cX12_holds 68 = .ok (.iload_n 3, 1) := by decide +kernel
theorem dX12_holds_69 : decode cX12_holds 69 = .ok (.if_icmp .ge 51, 3) := by decide +kernel
theorem dX12_holds_120 : decode cX12_holds 120 = .ok (.iload 8, 2) := by decide +kernel
theorem dX12_holds_122 : decode cX12_holds 122 = .ok (.iconst 4, 1) := by decide +kernel
theorem dX12_holds_133 : decode cX12_holds 133 = .ok (.iload 8, 2) := by decide +kernel
theorem dX12_holds_135 : decode cX12_holds 135 = .ok (.iconst 2, 1) := by decide +kernel
theorem dX12_holds_136 : decode cX12_holds 136 = .ok (.if_icmp .ne 11, 3) := by decide +kernel
theorem dX12_holds_147 : decode cX12_holds 147 = .ok (.lload 6, 2) := by decide +kernel
theorem dX12_holds_149 : decode cX12_holds 149 = .ok (.lload 9, 2) := by decide +kernel
theorem dX12_holds_151 : decode cX12_holds 151 = .ok (.ladd, 1) := by decide +kernel
theorem dX12_holds_152 : decode cX12_holds 152 = .ok (.lstore 6, 2) := by decide +kernel
theorem dX12_holds_154 : decode cX12_holds 154 = .ok (.lload 6, 2) := by decide +kernel
theorem dX12_holds_156 : decode cX12_holds 156 = .ok (.ldc2_w 398, 3) := by decide +kernel
theorem dX12_holds_159 : decode cX12_holds 159 = .ok (.ldc2_w 400, 3) := by decide +kernel
theorem dX12_holds_162 : decode cX12_holds 162 = .ok (.invokestatic 79, 3) := by decide +kernel
theorem dX12_holds_165 : decode cX12_holds 165 = .ok (.ifCond .ne 5, 3) := by decide +kernel
theorem dX12_holds_170 : decode cX12_holds 170 = .ok (.goto (-132), 3) := by decide +kernel
theorem dX12_holds_168 : decode cX12_holds 168 = .ok (.iconst 0, 1) := by decide +kernel
theorem dX12_holds_169 : decode cX12_holds 169 = .ok (.ireturn, 1) := by decide +kernel
theorem dX12_holds_139 : decode cX12_holds 139 = .ok (.lload 6, 2) := by decide +kernel
theorem dX12_holds_141 : decode cX12_holds 141 = .ok (.lload 9, 2) := by decide +kernel
theorem dX12_holds_143 : decode cX12_holds 143 = .ok (.lsub, 1) := by decide +kernel
theorem dX12_holds_144 : decode cX12_holds 144 = .ok (.goto 8, 3) := by decide +kernel
theorem dX12_holds_123 : decode cX12_holds 123 = .ok (.if_icmp .ne 10, 3) := by decide +kernel
theorem dX12_holds_126 : decode cX12_holds 126 = .ok (.lload 6, 2) := by decide +kernel
theorem dX12_holds_128 : decode cX12_holds 128 = .ok (.lstore 4, 2) := by decide +kernel
theorem dX12_holds_130 : decode cX12_holds 130 = .ok (.lconst 0, 1) := by decide +kernel
theorem dX12_holds_131 : decode cX12_holds 131 = .ok (.lstore 6, 2) := by decide +kernel
theorem dX12_holds_72 : decode cX12_holds 72 = .ok (.aload_n 0, 1) := by decide +kernel
theorem dX12_holds_73 : decode cX12_holds 73 = .ok (.getfield 13, 3) := by decide +kernel
theorem dX12_holds_76 : decode cX12_holds 76 = .ok (.sipush 562, 3) := by decide +kernel
theorem dX12_holds_79 : decode cX12_holds 79 = .ok (.iconst 3, 1) := by decide +kernel
theorem dX12_holds_80 : decode cX12_holds 80 = .ok (.iload_n 2, 1) := by decide +kernel
theorem dX12_holds_81 : decode cX12_holds 81 = .ok (.imul, 1) := by decide +kernel
theorem dX12_holds_82 : decode cX12_holds 82 = .ok (.iadd, 1) := by decide +kernel
theorem dX12_holds_83 : decode cX12_holds 83 = .ok (.iaload, 1) := by decide +kernel
theorem dX12_holds_84 : decode cX12_holds 84 = .ok (.iconst 3, 1) := by decide +kernel
theorem dX12_holds_85 : decode cX12_holds 85 = .ok (.if_icmp .ne 35, 3) := by decide +kernel
theorem dX12_holds_88 : decode cX12_holds 88 = .ok (.lload 9, 2) := by decide +kernel
theorem dX12_holds_90 : decode cX12_holds 90 = .ok (.aload_n 0, 1) := by decide +kernel
theorem dX12_holds_91 : decode cX12_holds 91 = .ok (.iload_n 2, 1) := by decide +kernel
theorem dX12_holds_92 : decode cX12_holds 92 = .ok (.invokevirtual 394, 3) := by decide +kernel
theorem dX12_holds_95 : decode cX12_holds 95 = .ok (.lmul, 1) := by decide +kernel
theorem dX12_holds_96 : decode cX12_holds 96 = .ok (.lstore 9, 2) := by decide +kernel
theorem dX12_holds_98 : decode cX12_holds 98 = .ok (.lload 9, 2) := by decide +kernel
theorem dX12_holds_100 : decode cX12_holds 100 = .ok (.ldc2_w 398, 3) := by decide +kernel
theorem dX12_holds_103 : decode cX12_holds 103 = .ok (.ldc2_w 400, 3) := by decide +kernel
theorem dX12_holds_106 : decode cX12_holds 106 = .ok (.invokestatic 79, 3) := by decide +kernel
theorem dX12_holds_109 : decode cX12_holds 109 = .ok (.ifCond .ne 5, 3) := by decide +kernel
theorem dX12_holds_114 : decode cX12_holds 114 = .ok (.iinc 2 1, 3) := by decide +kernel
theorem dX12_holds_117 : decode cX12_holds 117 = .ok (.goto (-50), 3) := by decide +kernel
theorem dX12_holds_112 : decode cX12_holds 112 = .ok (.iconst 0, 1) := by decide +kernel
theorem dX12_holds_113 : decode cX12_holds 113 = .ok (.ireturn, 1) := by decide +kernel
theorem dX12_stopping_0 : decode cX12_stopping 0 = .ok (.aload_n 0, 1) := by decide +kernel
theorem dX12_stopping_1 : decode cX12_stopping 1 = .ok (.invokevirtual 391, 3) := by decide +kernel
theorem dX12_stopping_4 : decode cX12_stopping 4 = .ok (.iconst 0, 1) := by decide +kernel
theorem dX12_stopping_5 : decode cX12_stopping 5 = .ok (.istore_n 1, 1) := by decide +kernel
theorem dX12_stopping_6 : decode cX12_stopping 6 = .ok (.iload_n 1, 1) := by decide +kernel
theorem dX12_stopping_7 : decode cX12_stopping 7 = .ok (.aload_n 0, 1) := by decide +kernel
theorem dX12_stopping_8 : decode cX12_stopping 8 = .ok (.getfield 13, 3) := by decide +kernel
theorem dX12_stopping_11 : decode cX12_stopping 11 = .ok (.iconst 3, 1) := by decide +kernel
theorem dX12_stopping_12 : decode cX12_stopping 12 = .ok (.iaload, 1) := by decide +kernel
theorem dX12_stopping_13 : decode cX12_stopping 13 = .ok (.if_icmp .ge 69, 3) := by decide +kernel
theorem dX12_stopping_82 : decode cX12_stopping 82 = .ok (.iconst (-1), 1) := by decide +kernel
theorem dX12_stopping_83 : decode cX12_stopping 83 = .ok (.ireturn, 1) := by decide +kernel
theorem dX12_stopping_16 : decode cX12_stopping 16 = .ok (.iconst 1, 1) := by decide +kernel
theorem dX12_stopping_17 : decode cX12_stopping 17 = .ok (.istore_n 2, 1) := by decide +kernel
theorem dX12_stopping_18 : decode cX12_stopping 18 = .ok (.iconst 0, 1) := by decide +kernel
theorem dX12_stopping_19 : decode cX12_stopping 19 = .ok (.istore_n 3, 1) := by decide +kernel
theorem dX12_stopping_20 : decode cX12_stopping 20 = .ok (.iload_n 3, 1) := by decide +kernel
theorem dX12_stopping_21 : decode cX12_stopping 21 = .ok (.aload_n 0, 1) := by decide +kernel
theorem dX12_stopping_22 : decode cX12_stopping 22 = .ok (.getfield 13, 3) := by decide +kernel
theorem dX12_stopping_25 : decode cX12_stopping 25 = .ok (.iconst 4, 1) := by decide +kernel
theorem dX12_stopping_26 : decode cX12_stopping 26 = .ok (.iaload, 1) := by decide +kernel
theorem dX12_stopping_27 : decode cX12_stopping 27 = .ok (.if_icmp .ge 43, 3) := by decide +kernel
theorem dX12_stopping_70 : decode cX12_stopping 70 = .ok (.iload_n 2, 1) := by decide +kernel
theorem dX12_stopping_71 : decode cX12_stopping 71 = .ok (.ifCond .eq 5, 3) := by decide +kernel
theorem dX12_stopping_76 : decode cX12_stopping 76 = .ok (.iinc 1 1, 3) := by decide +kernel
theorem dX12_stopping_79 : decode cX12_stopping 79 = .ok (.goto (-73), 3) := by decide +kernel
theorem dX12_stopping_74 : decode cX12_stopping 74 = .ok (.iload_n 1, 1) := by decide +kernel
theorem dX12_stopping_75 : decode cX12_stopping 75 = .ok (.ireturn, 1) := by decide +kernel
theorem dX12_stopping_30 : decode cX12_stopping 30 = .ok (.iload_n 2, 1) := by decide +kernel
theorem dX12_stopping_31 : decode cX12_stopping 31 = .ok (.ifCond .eq 31, 3) := by decide +kernel
theorem dX12_stopping_62 : decode cX12_stopping 62 = .ok (.iconst 0, 1) := by decide +kernel
theorem dX12_stopping_63 : decode cX12_stopping 63 = .ok (.istore_n 2, 1) := by decide +kernel
theorem dX12_stopping_64 : decode cX12_stopping 64 = .ok (.iinc 3 1, 3) := by decide +kernel
theorem dX12_stopping_67 : decode cX12_stopping 67 = .ok (.goto (-47), 3) := by decide +kernel
theorem dX12_stopping_34 : decode cX12_stopping 34 = .ok (.aload_n 0, 1) := by decide +kernel
theorem dX12_stopping_35 : decode cX12_stopping 35 = .ok (.getfield 13, 3) := by decide +kernel
theorem dX12_stopping_38 : decode cX12_stopping 38 = .ok (.sipush 162, 3) := by decide +kernel
theorem dX12_stopping_41 : decode cX12_stopping 41 = .ok (.iconst 4, 1) := by decide +kernel
theorem dX12_stopping_42 : decode cX12_stopping 42 = .ok (.iload_n 3, 1) := by decide +kernel
theorem dX12_stopping_43 : decode cX12_stopping 43 = .ok (.imul, 1) := by decide +kernel
theorem dX12_stopping_44 : decode cX12_stopping 44 = .ok (.iadd, 1) := by decide +kernel
theorem dX12_stopping_45 : decode cX12_stopping 45 = .ok (.iaload, 1) := by decide +kernel
theorem dX12_stopping_46 : decode cX12_stopping 46 = .ok (.iload_n 1, 1) := by decide +kernel
theorem dX12_stopping_47 : decode cX12_stopping 47 = .ok (.if_icmp .ne 11, 3) := by decide +kernel
theorem dX12_stopping_58 : decode cX12_stopping 58 = .ok (.iconst 1, 1) := by decide +kernel
theorem dX12_stopping_59 : decode cX12_stopping 59 = .ok (.goto 4, 3) := by decide +kernel
theorem dX12_stopping_50 : decode cX12_stopping 50 = .ok (.aload_n 0, 1) := by decide +kernel
theorem dX12_stopping_51 : decode cX12_stopping 51 = .ok (.iload_n 3, 1) := by decide +kernel
theorem dX12_stopping_52 : decode cX12_stopping 52 = .ok (.invokevirtual 402, 3) := by decide +kernel
theorem dX12_stopping_55 : decode cX12_stopping 55 = .ok (.ifCond .eq 7, 3) := by decide +kernel
theorem dX12_stops_0 : decode cX12_stops 0 = .ok (.aload_n 0, 1) := by decide +kernel
theorem dX12_stops_1 : decode cX12_stops 1 = .ok (.iload_n 1, 1) := by decide +kernel
theorem dX12_stops_2 : decode cX12_stops 2 = .ok (.invokevirtual 376, 3) := by decide +kernel
theorem dX12_stops_5 : decode cX12_stops 5 = .ok (.istore_n 2, 1) := by decide +kernel
theorem dX12_stops_6 : decode cX12_stops 6 = .ok (.iload_n 2, 1) := by decide +kernel
theorem dX12_stops_7 : decode cX12_stops 7 = .ok (.ifCond .ge 5, 3) := by decide +kernel
theorem dX12_stops_12 : decode cX12_stops 12 = .ok (.aload_n 0, 1) := by decide +kernel
theorem dX12_stops_13 : decode cX12_stops 13 = .ok (.iload_n 1, 1) := by decide +kernel
theorem dX12_stops_14 : decode cX12_stops 14 = .ok (.invokevirtual 363, 3) := by decide +kernel
theorem dX12_stops_17 : decode cX12_stops 17 = .ok (.aload_n 0, 1) := by decide +kernel
theorem dX12_stops_18 : decode cX12_stops 18 = .ok (.invokevirtual 405, 3) := by decide +kernel
theorem dX12_stops_21 : decode cX12_stops 21 = .ok (.ireturn, 1) := by decide +kernel
theorem dX12_stops_10 : decode cX12_stops 10 = .ok (.iload_n 2, 1) := by decide +kernel
theorem dX12_stops_11 : decode cX12_stops 11 = .ok (.ireturn, 1) := by decide +kernel
theorem dX12_odds_0 : decode cX12_odds 0 = .ok (.iload_n 1, 1) := by decide +kernel
theorem dX12_odds_1 : decode cX12_odds 1 = .ok (.invokestatic 322, 3) := by decide +kernel
theorem dX12_odds_4 : decode cX12_odds 4 = .ok (.ifCond .eq 15, 3) := by decide +kernel
theorem dX12_odds_19 : decode cX12_odds 19 = .ok (.bipush (-2), 2) := by decide +kernel
theorem dX12_odds_21 : decode cX12_odds 21 = .ok (.ireturn, 1) := by decide +kernel
theorem dX12_odds_7 : decode cX12_odds 7 = .ok (.iload_n 2, 1) := by decide +kernel
theorem dX12_odds_8 : decode cX12_odds 8 = .ok (.i2l, 1) := by decide +kernel
theorem dX12_odds_9 : decode cX12_odds 9 = .ok (.lconst 1, 1) := by decide +kernel
theorem dX12_odds_10 : decode cX12_odds 10 = .ok (.ldc2_w 408, 3) := by decide +kernel
theorem dX12_odds_13 : decode cX12_odds 13 = .ok (.invokestatic 79, 3) := by decide +kernel
theorem dX12_odds_16 : decode cX12_odds 16 = .ok (.ifCond .ne 6, 3) := by decide +kernel
theorem dX12_odds_22 : decode cX12_odds 22 = .ok (.aload_n 0, 1) := by decide +kernel
theorem dX12_odds_23 : decode cX12_odds 23 = .ok (.invokevirtual 325, 3) := by decide +kernel
theorem dX12_odds_26 : decode cX12_odds 26 = .ok (.ifCond .ne 6, 3) := by decide +kernel
theorem dX12_odds_32 : decode cX12_odds 32 = .ok (.iconst 0, 1) := by decide +kernel
theorem dX12_odds_33 : decode cX12_odds 33 = .ok (.istore_n 3, 1) := by decide +kernel
theorem dX12_odds_34 : decode cX12_odds 34 = .ok (.iconst 0, 1) := by decide +kernel
theorem dX12_odds_35 : decode cX12_odds 35 = .ok (.istore 4, 2) := by decide +kernel
theorem dX12_odds_37 : decode cX12_odds 37 = .ok (.iload 4, 2) := by decide +kernel
theorem dX12_odds_39 : decode cX12_odds 39 = .ok (.iload_n 2, 1) := by decide +kernel
theorem dX12_odds_40 : decode cX12_odds 40 = .ok (.if_icmp .ge 37, 3) := by decide +kernel
theorem dX12_odds_77 : decode cX12_odds 77 = .ok (.iload_n 3, 1) := by decide +kernel
theorem dX12_odds_78 : decode cX12_odds 78 = .ok (.ireturn, 1) := by decide +kernel
theorem dX12_odds_43 : decode cX12_odds 43 = .ok (.aload_n 0, 1) := by decide +kernel
theorem dX12_odds_44 : decode cX12_odds 44 = .ok (.iload_n 1, 1) := by decide +kernel
theorem dX12_odds_45 : decode cX12_odds 45 = .ok (.i2l, 1) := by decide +kernel
theorem dX12_odds_46 : decode cX12_odds 46 = .ok (.iload 4, 2) := by decide +kernel
theorem dX12_odds_48 : decode cX12_odds 48 = .ok (.i2l, 1) := by decide +kernel
theorem dX12_odds_49 : decode cX12_odds 49 = .ok (.ladd, 1) := by decide +kernel
theorem dX12_odds_50 : decode cX12_odds 50 = .ok (.invokevirtual 328, 3) := by decide +kernel
theorem dX12_odds_53 : decode cX12_odds 53 = .ok (.istore 5, 2) := by decide +kernel
theorem dX12_odds_55 : decode cX12_odds 55 = .ok (.iload_n 3, 1) := by decide +kernel
theorem dX12_odds_56 : decode cX12_odds 56 = .ok (.aload_n 0, 1) := by decide +kernel
theorem dX12_odds_57 : decode cX12_odds 57 = .ok (.invokevirtual 405, 3) := by decide +kernel
theorem dX12_odds_60 : decode cX12_odds 60 = .ok (.iconst (-1), 1) := by decide +kernel
theorem dX12_odds_61 : decode cX12_odds 61 = .ok (.if_icmp .ne 7, 3) := by decide +kernel
theorem dX12_odds_68 : decode cX12_odds 68 = .ok (.iconst 1, 1) := by decide +kernel
theorem dX12_odds_69 : decode cX12_odds 69 = .ok (.iadd, 1) := by decide +kernel
theorem dX12_odds_70 : decode cX12_odds 70 = .ok (.istore_n 3, 1) := by decide +kernel
theorem dX12_odds_71 : decode cX12_odds 71 = .ok (.iinc 4 1, 3) := by decide +kernel
theorem dX12_odds_74 : decode cX12_odds 74 = .ok (.goto (-37), 3) := by decide +kernel
theorem dX12_odds_64 : decode cX12_odds 64 = .ok (.iconst 0, 1) := by decide +kernel
theorem dX12_odds_65 : decode cX12_odds 65 = .ok (.goto 4, 3) := by decide +kernel
theorem dX12_odds_29 : decode cX12_odds 29 = .ok (.bipush (-6), 2) := by decide +kernel
theorem dX12_odds_31 : decode cX12_odds 31 = .ok (.ireturn, 1) := by decide +kernel
theorem dX12_isSaid_0 : decode cX12_isSaid 0 = .ok (.aload_n 0, 1) := by decide +kernel
theorem dX12_isSaid_1 : decode cX12_isSaid 1 = .ok (.getfield 49, 3) := by decide +kernel
theorem dX12_isSaid_4 : decode cX12_isSaid 4 = .ok (.ifCond .le 7, 3) := by decide +kernel
theorem dX12_isSaid_11 : decode cX12_isSaid 11 = .ok (.iconst 0, 1) := by decide +kernel
theorem dX12_isSaid_12 : decode cX12_isSaid 12 = .ok (.istore_n 1, 1) := by decide +kernel
theorem dX12_isSaid_13 : decode cX12_isSaid 13 = .ok (.iconst 0, 1) := by decide +kernel
theorem dX12_isSaid_14 : decode cX12_isSaid 14 = .ok (.istore_n 2, 1) := by decide +kernel
theorem dX12_isSaid_15 : decode cX12_isSaid 15 = .ok (.iload_n 2, 1) := by decide +kernel
theorem dX12_isSaid_16 : decode cX12_isSaid 16 = .ok (.aload_n 0, 1) := by decide +kernel
theorem dX12_isSaid_17 : decode cX12_isSaid 17 = .ok (.getfield 49, 3) := by decide +kernel
theorem dX12_isSaid_20 : decode cX12_isSaid 20 = .ok (.if_icmp .ge 30, 3) := by decide +kernel
theorem dX12_isSaid_50 : decode cX12_isSaid 50 = .ok (.iload_n 1, 1) := by decide +kernel
theorem dX12_isSaid_51 : decode cX12_isSaid 51 = .ok (.ireturn, 1) := by decide +kernel
theorem dX12_isSaid_7 : decode cX12_isSaid 7 = .ok (.iconst 1, 1) := by decide +kernel
theorem dX12_isSaid_8 : decode cX12_isSaid 8 = .ok (.goto 4, 3) := by decide +kernel
theorem dX12_isSaid_23 : decode cX12_isSaid 23 = .ok (.iload_n 1, 1) := by decide +kernel
theorem dX12_isSaid_24 : decode cX12_isSaid 24 = .ok (.ifCond .eq 18, 3) := by decide +kernel
theorem dX12_isSaid_42 : decode cX12_isSaid 42 = .ok (.iconst 0, 1) := by decide +kernel
theorem dX12_isSaid_43 : decode cX12_isSaid 43 = .ok (.istore_n 1, 1) := by decide +kernel
theorem dX12_isSaid_44 : decode cX12_isSaid 44 = .ok (.iinc 2 1, 3) := by decide +kernel
theorem dX12_isSaid_47 : decode cX12_isSaid 47 = .ok (.goto (-32), 3) := by decide +kernel
theorem dX12_isSaid_27 : decode cX12_isSaid 27 = .ok (.aload_n 0, 1) := by decide +kernel
theorem dX12_isSaid_28 : decode cX12_isSaid 28 = .ok (.getfield 46, 3) := by decide +kernel
theorem dX12_isSaid_31 : decode cX12_isSaid 31 = .ok (.iload_n 2, 1) := by decide +kernel
theorem dX12_isSaid_32 : decode cX12_isSaid 32 = .ok (.iaload, 1) := by decide +kernel
theorem dX12_isSaid_33 : decode cX12_isSaid 33 = .ok (.bipush 99, 2) := by decide +kernel
theorem dX12_isSaid_35 : decode cX12_isSaid 35 = .ok (.if_icmp .eq 7, 3) := by decide +kernel
theorem dX12_isSaid_38 : decode cX12_isSaid 38 = .ok (.iconst 1, 1) := by decide +kernel
theorem dX12_isSaid_39 : decode cX12_isSaid 39 = .ok (.goto 4, 3) := by decide +kernel
theorem dX12_carries_0 : decode cX12_carries 0 = .ok (.iload_n 1, 1) := by decide +kernel
theorem dX12_carries_1 : decode cX12_carries 1 = .ok (.invokestatic 221, 3) := by decide +kernel
theorem dX12_carries_4 : decode cX12_carries 4 = .ok (.ifCond .eq 22, 3) := by decide +kernel
theorem dX12_carries_26 : decode cX12_carries 26 = .ok (.bipush (-2), 2) := by decide +kernel
theorem dX12_carries_28 : decode cX12_carries 28 = .ok (.ireturn, 1) := by decide +kernel
theorem dX12_carries_7 : decode cX12_carries 7 = .ok (.iload_n 2, 1) := by decide +kernel
theorem dX12_carries_8 : decode cX12_carries 8 = .ok (.invokestatic 322, 3) := by decide +kernel
theorem dX12_carries_11 : decode cX12_carries 11 = .ok (.ifCond .eq 15, 3) := by decide +kernel
theorem dX12_carries_14 : decode cX12_carries 14 = .ok (.iload_n 3, 1) := by decide +kernel
theorem dX12_carries_15 : decode cX12_carries 15 = .ok (.i2l, 1) := by decide +kernel
theorem dX12_carries_16 : decode cX12_carries 16 = .ok (.lconst 1, 1) := by decide +kernel
theorem dX12_carries_17 : decode cX12_carries 17 = .ok (.ldc2_w 408, 3) := by decide +kernel
theorem dX12_carries_20 : decode cX12_carries 20 = .ok (.invokestatic 79, 3) := by decide +kernel
theorem dX12_carries_23 : decode cX12_carries 23 = .ok (.ifCond .ne 6, 3) := by decide +kernel
theorem dX12_carries_29 : decode cX12_carries 29 = .ok (.aload_n 0, 1) := by decide +kernel
theorem dX12_carries_30 : decode cX12_carries 30 = .ok (.invokevirtual 325, 3) := by decide +kernel
theorem dX12_carries_33 : decode cX12_carries 33 = .ok (.ifCond .eq 11, 3) := by decide +kernel
theorem dX12_carries_44 : decode cX12_carries 44 = .ok (.bipush (-6), 2) := by decide +kernel
theorem dX12_carries_46 : decode cX12_carries 46 = .ok (.ireturn, 1) := by decide +kernel
theorem dX12_carries_36 : decode cX12_carries 36 = .ok (.aload_n 0, 1) := by decide +kernel
theorem dX12_carries_37 : decode cX12_carries 37 = .ok (.iload_n 1, 1) := by decide +kernel
theorem dX12_carries_38 : decode cX12_carries 38 = .ok (.invokevirtual 354, 3) := by decide +kernel
theorem dX12_carries_41 : decode cX12_carries 41 = .ok (.ifCond .ne 6, 3) := by decide +kernel
theorem dX12_carries_47 : decode cX12_carries 47 = .ok (.aload_n 0, 1) := by decide +kernel
theorem dX12_carries_48 : decode cX12_carries 48 = .ok (.invokevirtual 410, 3) := by decide +kernel
theorem dX12_carries_51 : decode cX12_carries 51 = .ok (.ifCond .ne 6, 3) := by decide +kernel
theorem dX12_carries_57 : decode cX12_carries 57 = .ok (.iconst 5, 1) := by decide +kernel
theorem dX12_carries_58 : decode cX12_carries 58 = .ok (.aload_n 0, 1) := by decide +kernel
theorem dX12_carries_59 : decode cX12_carries 59 = .ok (.getfield 49, 3) := by decide +kernel
theorem dX12_carries_62 : decode cX12_carries 62 = .ok (.iconst 1, 1) := by decide +kernel
theorem dX12_carries_63 : decode cX12_carries 63 = .ok (.iadd, 1) := by decide +kernel
theorem dX12_carries_64 : decode cX12_carries 64 = .ok (.imul, 1) := by decide +kernel
theorem dX12_carries_65 : decode cX12_carries 65 = .ok (.aload_n 0, 1) := by decide +kernel
theorem dX12_carries_66 : decode cX12_carries 66 = .ok (.iload_n 1, 1) := by decide +kernel
theorem dX12_carries_67 : decode cX12_carries 67 = .ok (.invokevirtual 241, 3) := by decide +kernel
theorem dX12_carries_70 : decode cX12_carries 70 = .ok (.if_icmp .le 6, 3) := by decide +kernel
theorem dX12_carries_76 : decode cX12_carries 76 = .ok (.iconst 0, 1) := by decide +kernel
theorem dX12_carries_77 : decode cX12_carries 77 = .ok (.istore 4, 2) := by decide +kernel
theorem dX12_carries_79 : decode cX12_carries 79 = .ok (.iconst 0, 1) := by decide +kernel
theorem dX12_carries_80 : decode cX12_carries 80 = .ok (.istore 5, 2) := by decide +kernel
theorem dX12_carries_82 : decode cX12_carries 82 = .ok (.iload 5, 2) := by decide +kernel
theorem dX12_carries_84 : decode cX12_carries 84 = .ok (.iload_n 3, 1) := by decide +kernel
theorem dX12_carries_85 : decode cX12_carries 85 = .ok (.if_icmp .ge 53, 3) := by decide +kernel
theorem dX12_carries_138 : decode cX12_carries 138 = .ok (.iload 4, 2) := by decide +kernel
theorem dX12_carries_140 : decode cX12_carries 140 = .ok (.ireturn, 1) := by decide +kernel
theorem dX12_carries_88 : decode cX12_carries 88 = .ok (.aload_n 0, 1) := by decide +kernel
theorem dX12_carries_89 : decode cX12_carries 89 = .ok (.iload_n 2, 1) := by decide +kernel
theorem dX12_carries_90 : decode cX12_carries 90 = .ok (.i2l, 1) := by decide +kernel
theorem dX12_carries_91 : decode cX12_carries 91 = .ok (.iload 5, 2) := by decide +kernel
theorem dX12_carries_93 : decode cX12_carries 93 = .ok (.i2l, 1) := by decide +kernel
theorem dX12_carries_94 : decode cX12_carries 94 = .ok (.ladd, 1) := by decide +kernel
theorem dX12_carries_95 : decode cX12_carries 95 = .ok (.invokevirtual 328, 3) := by decide +kernel
theorem dX12_carries_98 : decode cX12_carries 98 = .ok (.aload_n 0, 1) := by decide +kernel
theorem dX12_carries_99 : decode cX12_carries 99 = .ok (.iload_n 1, 1) := by decide +kernel
theorem dX12_carries_100 : decode cX12_carries 100 = .ok (.aload_n 0, 1) := by decide +kernel
theorem dX12_carries_101 : decode cX12_carries 101 = .ok (.getfield 46, 3) := by decide +kernel
theorem dX12_carries_104 : decode cX12_carries 104 = .ok (.aload_n 0, 1) := by decide +kernel
theorem dX12_carries_105 : decode cX12_carries 105 = .ok (.getfield 49, 3) := by decide +kernel
theorem dX12_carries_108 : decode cX12_carries 108 = .ok (.invokevirtual 366, 3) := by decide +kernel
theorem dX12_carries_111 : decode cX12_carries 111 = .ok (.iadd, 1) := by decide +kernel
theorem dX12_carries_112 : decode cX12_carries 112 = .ok (.istore 6, 2) := by decide +kernel
theorem dX12_carries_114 : decode cX12_carries 114 = .ok (.iload 4, 2) := by decide +kernel
theorem dX12_carries_116 : decode cX12_carries 116 = .ok (.aload_n 0, 1) := by decide +kernel
theorem dX12_carries_117 : decode cX12_carries 117 = .ok (.invokevirtual 405, 3) := by decide +kernel
theorem dX12_carries_120 : decode cX12_carries 120 = .ok (.iconst (-1), 1) := by decide +kernel
theorem dX12_carries_121 : decode cX12_carries 121 = .ok (.if_icmp .ne 7, 3) := by decide +kernel
theorem dX12_carries_128 : decode cX12_carries 128 = .ok (.iconst 1, 1) := by decide +kernel
theorem dX12_carries_129 : decode cX12_carries 129 = .ok (.iadd, 1) := by decide +kernel
theorem dX12_carries_130 : decode cX12_carries 130 = .ok (.istore 4, 2) := by decide +kernel
theorem dX12_carries_132 : decode cX12_carries 132 = .ok (.iinc 5 1, 3) := by decide +kernel
theorem dX12_carries_135 : decode cX12_carries 135 = .ok (.goto (-53), 3) := by decide +kernel
theorem dX12_carries_124 : decode cX12_carries 124 = .ok (.iconst 0, 1) := by decide +kernel
theorem dX12_carries_125 : decode cX12_carries 125 = .ok (.goto 4, 3) := by decide +kernel
theorem dX12_carries_73 : decode cX12_carries 73 = .ok (.bipush (-3), 2) := by decide +kernel
theorem dX12_carries_75 : decode cX12_carries 75 = .ok (.ireturn, 1) := by decide +kernel
theorem dX12_carries_54 : decode cX12_carries 54 = .ok (.bipush (-5), 2) := by decide +kernel
theorem dX12_carries_56 : decode cX12_carries 56 = .ok (.ireturn, 1) := by decide +kernel
theorem dX12_suffers_0 : decode cX12_suffers 0 = .ok (.iconst 0, 1) := by decide +kernel
theorem dX12_suffers_1 : decode cX12_suffers 1 = .ok (.istore_n 1, 1) := by decide +kernel
theorem dX12_suffers_2 : decode cX12_suffers 2 = .ok (.iload_n 1, 1) := by decide +kernel
theorem dX12_suffers_3 : decode cX12_suffers 3 = .ok (.aload_n 0, 1) := by decide +kernel
theorem dX12_suffers_4 : decode cX12_suffers 4 = .ok (.getfield 13, 3) := by decide +kernel
theorem dX12_suffers_7 : decode cX12_suffers 7 = .ok (.bipush 6, 2) := by decide +kernel
theorem dX12_suffers_9 : decode cX12_suffers 9 = .ok (.iaload, 1) := by decide +kernel
theorem dX12_suffers_10 : decode cX12_suffers 10 = .ok (.if_icmp .ge 184, 3) := by decide +kernel
theorem dX12_suffers_194 : decode cX12_suffers 194 = .ok (.return_, 1) := by decide +kernel
theorem dX12_suffers_13 : decode cX12_suffers 13 = .ok (.aload_n 0, 1) := by decide +kernel
theorem dX12_suffers_14 : decode cX12_suffers 14 = .ok (.getfield 13, 3) := by decide +kernel
theorem dX12_suffers_17 : decode cX12_suffers 17 = .ok (.sipush 1012, 3) := by decide +kernel
theorem dX12_suffers_20 : decode cX12_suffers 20 = .ok (.iconst 3, 1) := by decide +kernel
theorem dX12_suffers_21 : decode cX12_suffers 21 = .ok (.iload_n 1, 1) := by decide +kernel
theorem dX12_suffers_22 : decode cX12_suffers 22 = .ok (.imul, 1) := by decide +kernel
theorem dX12_suffers_23 : decode cX12_suffers 23 = .ok (.iadd, 1) := by decide +kernel
theorem dX12_suffers_24 : decode cX12_suffers 24 = .ok (.iaload, 1) := by decide +kernel
theorem dX12_suffers_25 : decode cX12_suffers 25 = .ok (.istore_n 2, 1) := by decide +kernel
theorem dX12_suffers_26 : decode cX12_suffers 26 = .ok (.aload_n 0, 1) := by decide +kernel
theorem dX12_suffers_27 : decode cX12_suffers 27 = .ok (.getfield 13, 3) := by decide +kernel
theorem dX12_suffers_30 : decode cX12_suffers 30 = .ok (.sipush 1012, 3) := by decide +kernel
theorem dX12_suffers_33 : decode cX12_suffers 33 = .ok (.iconst 3, 1) := by decide +kernel
theorem dX12_suffers_34 : decode cX12_suffers 34 = .ok (.iload_n 1, 1) := by decide +kernel
theorem dX12_suffers_35 : decode cX12_suffers 35 = .ok (.imul, 1) := by decide +kernel
theorem dX12_suffers_36 : decode cX12_suffers 36 = .ok (.iadd, 1) := by decide +kernel
theorem dX12_suffers_37 : decode cX12_suffers 37 = .ok (.iconst 1, 1) := by decide +kernel
theorem dX12_suffers_38 : decode cX12_suffers 38 = .ok (.iadd, 1) := by decide +kernel
theorem dX12_suffers_39 : decode cX12_suffers 39 = .ok (.iaload, 1) := by decide +kernel
theorem dX12_suffers_40 : decode cX12_suffers 40 = .ok (.istore_n 3, 1) := by decide +kernel
theorem dX12_suffers_41 : decode cX12_suffers 41 = .ok (.aload_n 0, 1) := by decide +kernel
theorem dX12_suffers_42 : decode cX12_suffers 42 = .ok (.getfield 13, 3) := by decide +kernel
theorem dX12_suffers_45 : decode cX12_suffers 45 = .ok (.sipush 1012, 3) := by decide +kernel
theorem dX12_suffers_48 : decode cX12_suffers 48 = .ok (.iconst 3, 1) := by decide +kernel
theorem dX12_suffers_49 : decode cX12_suffers 49 = .ok (.iload_n 1, 1) := by decide +kernel
theorem dX12_suffers_50 : decode cX12_suffers 50 = .ok (.imul, 1) := by decide +kernel
theorem dX12_suffers_51 : decode cX12_suffers 51 = .ok (.iadd, 1) := by decide +kernel
theorem dX12_suffers_52 : decode cX12_suffers 52 = .ok (.iconst 2, 1) := by decide +kernel
theorem dX12_suffers_53 : decode cX12_suffers 53 = .ok (.iadd, 1) := by decide +kernel
theorem dX12_suffers_54 : decode cX12_suffers 54 = .ok (.iaload, 1) := by decide +kernel
theorem dX12_suffers_55 : decode cX12_suffers 55 = .ok (.istore 4, 2) := by decide +kernel
theorem dX12_suffers_57 : decode cX12_suffers 57 = .ok (.iconst 0, 1) := by decide +kernel
theorem dX12_suffers_58 : decode cX12_suffers 58 = .ok (.istore 5, 2) := by decide +kernel
theorem dX12_suffers_60 : decode cX12_suffers 60 = .ok (.iload 5, 2) := by decide +kernel
theorem dX12_suffers_62 : decode cX12_suffers 62 = .ok (.aload_n 0, 1) := by decide +kernel
theorem dX12_suffers_63 : decode cX12_suffers 63 = .ok (.invokevirtual 203, 3) := by decide +kernel
theorem dX12_suffers_66 : decode cX12_suffers 66 = .ok (.if_icmp .ge 122, 3) := by decide +kernel
theorem dX12_suffers_188 : decode cX12_suffers 188 = .ok (.iinc 1 1, 3) := by decide +kernel
theorem dX12_suffers_191 : decode cX12_suffers 191 = .ok (.goto (-189), 3) := by decide +kernel
theorem dX12_suffers_69 : decode cX12_suffers 69 = .ok (.iload_n 2, 1) := by decide +kernel
theorem dX12_suffers_143 : decode cX12_suffers 143 = .ok (.istore 6, 2) := by decide +kernel
theorem dX12_suffers_145 : decode cX12_suffers 145 = .ok (.iload 6, 2) := by decide +kernel
theorem dX12_suffers_158 : decode cX12_suffers 158 = .ok (.iload_n 2, 1) := by decide +kernel
theorem dX12_suffers_159 : decode cX12_suffers 159 = .ok (.iconst 3, 1) := by decide +kernel
theorem dX12_suffers_160 : decode cX12_suffers 160 = .ok (.if_icmp .ne 22, 3) := by decide +kernel
theorem dX12_suffers_182 : decode cX12_suffers 182 = .ok (.iinc 5 1, 3) := by decide +kernel
theorem dX12_suffers_185 : decode cX12_suffers 185 = .ok (.goto (-125), 3) := by decide +kernel
theorem dX12_suffers_163 : decode cX12_suffers 163 = .ok (.aload_n 0, 1) := by decide +kernel
theorem dX12_suffers_164 : decode cX12_suffers 164 = .ok (.getfield 37, 3) := by decide +kernel
theorem dX12_suffers_167 : decode cX12_suffers 167 = .ok (.iload 5, 2) := by decide +kernel
theorem dX12_suffers_169 : decode cX12_suffers 169 = .ok (.iaload, 1) := by decide +kernel
theorem dX12_suffers_170 : decode cX12_suffers 170 = .ok (.iconst 2, 1) := by decide +kernel
theorem dX12_suffers_171 : decode cX12_suffers 171 = .ok (.if_icmp .ne 11, 3) := by decide +kernel
theorem dX12_suffers_174 : decode cX12_suffers 174 = .ok (.aload_n 0, 1) := by decide +kernel
theorem dX12_suffers_175 : decode cX12_suffers 175 = .ok (.getfield 37, 3) := by decide +kernel
theorem dX12_suffers_178 : decode cX12_suffers 178 = .ok (.iload 5, 2) := by decide +kernel
theorem dX12_suffers_180 : decode cX12_suffers 180 = .ok (.iconst 0, 1) := by decide +kernel
theorem dX12_suffers_181 : decode cX12_suffers 181 = .ok (.iastore, 1) := by decide +kernel
theorem dX12_suffers_147 : decode cX12_suffers 147 = .ok (.ifCond .eq 11, 3) := by decide +kernel
theorem dX12_suffers_150 : decode cX12_suffers 150 = .ok (.aload_n 0, 1) := by decide +kernel
theorem dX12_suffers_151 : decode cX12_suffers 151 = .ok (.getfield 37, 3) := by decide +kernel
theorem dX12_suffers_154 : decode cX12_suffers 154 = .ok (.iload 5, 2) := by decide +kernel
theorem dX12_suffers_156 : decode cX12_suffers 156 = .ok (.iconst 4, 1) := by decide +kernel
theorem dX12_suffers_157 : decode cX12_suffers 157 = .ok (.iastore, 1) := by decide +kernel
theorem dX12_suffers_70 : decode cX12_suffers 70 = .ok (.ifCond .ne 22, 3) := by decide +kernel
theorem dX12_suffers_92 : decode cX12_suffers 92 = .ok (.iload_n 2, 1) := by decide +kernel
theorem dX12_suffers_93 : decode cX12_suffers 93 = .ok (.iconst 1, 1) := by decide +kernel
theorem dX12_suffers_94 : decode cX12_suffers 94 = .ok (.if_icmp .ne 22, 3) := by decide +kernel
theorem dX12_suffers_116 : decode cX12_suffers 116 = .ok (.iload_n 2, 1) := by decide +kernel
theorem dX12_suffers_117 : decode cX12_suffers 117 = .ok (.iconst 2, 1) := by decide +kernel
theorem dX12_suffers_118 : decode cX12_suffers 118 = .ok (.if_icmp .ne 24, 3) := by decide +kernel
theorem dX12_suffers_142 : decode cX12_suffers 142 = .ok (.iconst 0, 1) := by decide +kernel
theorem dX12_suffers_121 : decode cX12_suffers 121 = .ok (.iload 5, 2) := by decide +kernel
theorem dX12_suffers_123 : decode cX12_suffers 123 = .ok (.iload 4, 2) := by decide +kernel
theorem dX12_suffers_125 : decode cX12_suffers 125 = .ok (.if_icmp .lt 17, 3) := by decide +kernel
theorem dX12_suffers_128 : decode cX12_suffers 128 = .ok (.iload 5, 2) := by decide +kernel
theorem dX12_suffers_130 : decode cX12_suffers 130 = .ok (.iload 4, 2) := by decide +kernel
theorem dX12_suffers_132 : decode cX12_suffers 132 = .ok (.isub, 1) := by decide +kernel
theorem dX12_suffers_133 : decode cX12_suffers 133 = .ok (.iload_n 3, 1) := by decide +kernel
theorem dX12_suffers_134 : decode cX12_suffers 134 = .ok (.irem, 1) := by decide +kernel
theorem dX12_suffers_135 : decode cX12_suffers 135 = .ok (.ifCond .ne 7, 3) := by decide +kernel
theorem dX12_suffers_138 : decode cX12_suffers 138 = .ok (.iconst 1, 1) := by decide +kernel
theorem dX12_suffers_139 : decode cX12_suffers 139 = .ok (.goto 4, 3) := by decide +kernel
theorem dX12_suffers_97 : decode cX12_suffers 97 = .ok (.iload 5, 2) := by decide +kernel
theorem dX12_suffers_99 : decode cX12_suffers 99 = .ok (.aload_n 0, 1) := by decide +kernel
theorem dX12_suffers_100 : decode cX12_suffers 100 = .ok (.invokevirtual 87, 3) := by decide +kernel
theorem dX12_suffers_103 : decode cX12_suffers 103 = .ok (.irem, 1) := by decide +kernel
theorem dX12_suffers_104 : decode cX12_suffers 104 = .ok (.i2l, 1) := by decide +kernel
theorem dX12_suffers_105 : decode cX12_suffers 105 = .ok (.iload_n 3, 1) := by decide +kernel
theorem dX12_suffers_106 : decode cX12_suffers 106 = .ok (.i2l, 1) := by decide +kernel
theorem dX12_suffers_107 : decode cX12_suffers 107 = .ok (.iload 4, 2) := by decide +kernel
theorem dX12_suffers_109 : decode cX12_suffers 109 = .ok (.i2l, 1) := by decide +kernel
theorem dX12_suffers_110 : decode cX12_suffers 110 = .ok (.invokestatic 79, 3) := by decide +kernel
theorem dX12_suffers_113 : decode cX12_suffers 113 = .ok (.ifCond .ne 25, 3) := by decide +kernel
theorem dX12_suffers_73 : decode cX12_suffers 73 = .ok (.iload 5, 2) := by decide +kernel
theorem dX12_suffers_75 : decode cX12_suffers 75 = .ok (.aload_n 0, 1) := by decide +kernel
theorem dX12_suffers_76 : decode cX12_suffers 76 = .ok (.invokevirtual 87, 3) := by decide +kernel
theorem dX12_suffers_79 : decode cX12_suffers 79 = .ok (.idiv, 1) := by decide +kernel
theorem dX12_suffers_80 : decode cX12_suffers 80 = .ok (.i2l, 1) := by decide +kernel
theorem dX12_suffers_81 : decode cX12_suffers 81 = .ok (.iload_n 3, 1) := by decide +kernel
theorem dX12_suffers_82 : decode cX12_suffers 82 = .ok (.i2l, 1) := by decide +kernel
theorem dX12_suffers_83 : decode cX12_suffers 83 = .ok (.iload 4, 2) := by decide +kernel
theorem dX12_suffers_85 : decode cX12_suffers 85 = .ok (.i2l, 1) := by decide +kernel
theorem dX12_suffers_86 : decode cX12_suffers 86 = .ok (.invokestatic 79, 3) := by decide +kernel
theorem dX12_suffers_89 : decode cX12_suffers 89 = .ok (.ifCond .ne 49, 3) := by decide +kernel
theorem dX12_isReadAgain_0 : decode cX12_isReadAgain 0 = .ok (.aload_n 0, 1) := by decide +kernel
theorem dX12_isReadAgain_1 : decode cX12_isReadAgain 1 = .ok (.iload_n 1, 1) := by decide +kernel
theorem dX12_isReadAgain_2 : decode cX12_isReadAgain 2 = .ok (.invokevirtual 373, 3) := by decide +kernel
theorem dX12_isReadAgain_5 : decode cX12_isReadAgain 5 = .ok (.aload_n 0, 1) := by decide +kernel
theorem dX12_isReadAgain_6 : decode cX12_isReadAgain 6 = .ok (.getfield 49, 3) := by decide +kernel
theorem dX12_isReadAgain_17 : decode cX12_isReadAgain 17 = .ok (.istore_n 2, 1) := by decide +kernel
theorem dX12_isReadAgain_18 : decode cX12_isReadAgain 18 = .ok (.iconst 0, 1) := by decide +kernel
theorem dX12_isReadAgain_19 : decode cX12_isReadAgain 19 = .ok (.istore_n 3, 1) := by decide +kernel
theorem dX12_isReadAgain_20 : decode cX12_isReadAgain 20 = .ok (.iload_n 3, 1) := by decide +kernel
theorem dX12_isReadAgain_21 : decode cX12_isReadAgain 21 = .ok (.aload_n 0, 1) := by decide +kernel
theorem dX12_isReadAgain_22 : decode cX12_isReadAgain 22 = .ok (.getfield 49, 3) := by decide +kernel
theorem dX12_isReadAgain_25 : decode cX12_isReadAgain 25 = .ok (.if_icmp .ge 34, 3) := by decide +kernel
theorem dX12_isReadAgain_59 : decode cX12_isReadAgain 59 = .ok (.iload_n 2, 1) := by decide +kernel
theorem dX12_isReadAgain_60 : decode cX12_isReadAgain 60 = .ok (.ireturn, 1) := by decide +kernel
theorem dX12_isReadAgain_28 : decode cX12_isReadAgain 28 = .ok (.iload_n 2, 1) := by decide +kernel
theorem dX12_isReadAgain_29 : decode cX12_isReadAgain 29 = .ok (.ifCond .eq 30, 3) := by decide +kernel
theorem dX12_isReadAgain_32 : decode cX12_isReadAgain 32 = .ok (.aload_n 0, 1) := by decide +kernel
theorem dX12_isReadAgain_33 : decode cX12_isReadAgain 33 = .ok (.getfield 52, 3) := by decide +kernel
theorem dX12_isReadAgain_36 : decode cX12_isReadAgain 36 = .ok (.iload_n 3, 1) := by decide +kernel
theorem dX12_isReadAgain_37 : decode cX12_isReadAgain 37 = .ok (.iaload, 1) := by decide +kernel
theorem dX12_isReadAgain_38 : decode cX12_isReadAgain 38 = .ok (.aload_n 0, 1) := by decide +kernel
theorem dX12_isReadAgain_39 : decode cX12_isReadAgain 39 = .ok (.getfield 46, 3) := by decide +kernel
theorem dX12_isReadAgain_42 : decode cX12_isReadAgain 42 = .ok (.iload_n 3, 1) := by decide +kernel
theorem dX12_isReadAgain_43 : decode cX12_isReadAgain 43 = .ok (.iaload, 1) := by decide +kernel
theorem dX12_isReadAgain_44 : decode cX12_isReadAgain 44 = .ok (.if_icmp .ne 7, 3) := by decide +kernel
theorem dX12_isReadAgain_51 : decode cX12_isReadAgain 51 = .ok (.iconst 0, 1) := by decide +kernel
theorem dX12_isReadAgain_52 : decode cX12_isReadAgain 52 = .ok (.istore_n 2, 1) := by decide +kernel
theorem dX12_isReadAgain_53 : decode cX12_isReadAgain 53 = .ok (.iinc 3 1, 3) := by decide +kernel
theorem dX12_isReadAgain_56 : decode cX12_isReadAgain 56 = .ok (.goto (-36), 3) := by decide +kernel
theorem dX12_isReadAgain_47 : decode cX12_isReadAgain 47 = .ok (.iconst 1, 1) := by decide +kernel
theorem dX12_isReadAgain_48 : decode cX12_isReadAgain 48 = .ok (.goto 4, 3) := by decide +kernel
theorem dX12_isReadAgain_9 : decode cX12_isReadAgain 9 = .ok (.if_icmp .ne 7, 3) := by decide +kernel
theorem dX12_isReadAgain_16 : decode cX12_isReadAgain 16 = .ok (.iconst 0, 1) := by decide +kernel
theorem dX12_isReadAgain_12 : decode cX12_isReadAgain 12 = .ok (.iconst 1, 1) := by decide +kernel
theorem dX12_isReadAgain_13 : decode cX12_isReadAgain 13 = .ok (.goto 4, 3) := by decide +kernel
theorem dX12_best_0 : decode cX12_best 0 = .ok (.aload_n 0, 1) := by decide +kernel
theorem dX12_best_1 : decode cX12_best 1 = .ok (.iload_n 1, 1) := by decide +kernel
theorem dX12_best_2 : decode cX12_best 2 = .ok (.invokevirtual 376, 3) := by decide +kernel
theorem dX12_best_5 : decode cX12_best 5 = .ok (.istore_n 2, 1) := by decide +kernel
theorem dX12_best_6 : decode cX12_best 6 = .ok (.iload_n 2, 1) := by decide +kernel
theorem dX12_best_7 : decode cX12_best 7 = .ok (.ifCond .ge 5, 3) := by decide +kernel
theorem dX12_best_12 : decode cX12_best 12 = .ok (.aload_n 0, 1) := by decide +kernel
theorem dX12_best_13 : decode cX12_best 13 = .ok (.invokevirtual 410, 3) := by decide +kernel
theorem dX12_best_16 : decode cX12_best 16 = .ok (.ifCond .ne 6, 3) := by decide +kernel
theorem dX12_best_22 : decode cX12_best 22 = .ok (.iconst (-1), 1) := by decide +kernel
theorem dX12_best_23 : decode cX12_best 23 = .ok (.istore_n 3, 1) := by decide +kernel
theorem dX12_best_24 : decode cX12_best 24 = .ok (.iconst 0, 1) := by decide +kernel
theorem dX12_best_25 : decode cX12_best 25 = .ok (.istore 4, 2) := by decide +kernel
theorem dX12_best_27 : decode cX12_best 27 = .ok (.iconst 0, 1) := by decide +kernel
theorem dX12_best_28 : decode cX12_best 28 = .ok (.istore 5, 2) := by decide +kernel
theorem dX12_best_30 : decode cX12_best 30 = .ok (.iload 5, 2) := by decide +kernel
theorem dX12_best_32 : decode cX12_best 32 = .ok (.bipush 6, 2) := by decide +kernel
theorem dX12_best_34 : decode cX12_best 34 = .ok (.if_icmp .ge 105, 3) := by decide +kernel
theorem dX12_best_139 : decode cX12_best 139 = .ok (.iload_n 3, 1) := by decide +kernel
theorem dX12_best_140 : decode cX12_best 140 = .ok (.ireturn, 1) := by decide +kernel
theorem dX12_best_37 : decode cX12_best 37 = .ok (.aload_n 0, 1) := by decide +kernel
theorem dX12_best_38 : decode cX12_best 38 = .ok (.iload 5, 2) := by decide +kernel
theorem dX12_best_40 : decode cX12_best 40 = .ok (.invokevirtual 354, 3) := by decide +kernel
theorem dX12_best_43 : decode cX12_best 43 = .ok (.ifCond .eq 90, 3) := by decide +kernel
theorem dX12_best_133 : decode cX12_best 133 = .ok (.iinc 5 1, 3) := by decide +kernel
theorem dX12_best_136 : decode cX12_best 136 = .ok (.goto (-106), 3) := by decide +kernel
theorem dX12_best_46 : decode cX12_best 46 = .ok (.iconst 5, 1) := by decide +kernel
theorem dX12_best_47 : decode cX12_best 47 = .ok (.aload_n 0, 1) := by decide +kernel
theorem dX12_best_48 : decode cX12_best 48 = .ok (.getfield 49, 3) := by decide +kernel
theorem dX12_best_51 : decode cX12_best 51 = .ok (.iconst 1, 1) := by decide +kernel
theorem dX12_best_52 : decode cX12_best 52 = .ok (.iadd, 1) := by decide +kernel
theorem dX12_best_53 : decode cX12_best 53 = .ok (.imul, 1) := by decide +kernel
theorem dX12_best_54 : decode cX12_best 54 = .ok (.aload_n 0, 1) := by decide +kernel
theorem dX12_best_55 : decode cX12_best 55 = .ok (.iload 5, 2) := by decide +kernel
theorem dX12_best_57 : decode cX12_best 57 = .ok (.invokevirtual 241, 3) := by decide +kernel
theorem dX12_best_60 : decode cX12_best 60 = .ok (.if_icmp .le 6, 3) := by decide +kernel
theorem dX12_best_66 : decode cX12_best 66 = .ok (.aload_n 0, 1) := by decide +kernel
theorem dX12_best_67 : decode cX12_best 67 = .ok (.iload_n 1, 1) := by decide +kernel
theorem dX12_best_68 : decode cX12_best 68 = .ok (.invokevirtual 363, 3) := by decide +kernel
theorem dX12_best_71 : decode cX12_best 71 = .ok (.aload_n 0, 1) := by decide +kernel
theorem dX12_best_72 : decode cX12_best 72 = .ok (.iload 5, 2) := by decide +kernel
theorem dX12_best_74 : decode cX12_best 74 = .ok (.aload_n 0, 1) := by decide +kernel
theorem dX12_best_75 : decode cX12_best 75 = .ok (.getfield 46, 3) := by decide +kernel
theorem dX12_best_78 : decode cX12_best 78 = .ok (.aload_n 0, 1) := by decide +kernel
theorem dX12_best_79 : decode cX12_best 79 = .ok (.getfield 49, 3) := by decide +kernel
theorem dX12_best_82 : decode cX12_best 82 = .ok (.invokevirtual 366, 3) := by decide +kernel
theorem dX12_best_85 : decode cX12_best 85 = .ok (.istore 6, 2) := by decide +kernel
theorem dX12_best_87 : decode cX12_best 87 = .ok (.iload_n 3, 1) := by decide +kernel
theorem dX12_best_88 : decode cX12_best 88 = .ok (.iconst (-1), 1) := by decide +kernel
theorem dX12_best_89 : decode cX12_best 89 = .ok (.if_icmp .eq 10, 3) := by decide +kernel
theorem dX12_best_99 : decode cX12_best 99 = .ok (.aload_n 0, 1) := by decide +kernel
theorem dX12_best_100 : decode cX12_best 100 = .ok (.invokevirtual 405, 3) := by decide +kernel
theorem dX12_best_103 : decode cX12_best 103 = .ok (.iconst (-1), 1) := by decide +kernel
theorem dX12_best_104 : decode cX12_best 104 = .ok (.if_icmp .eq 6, 3) := by decide +kernel
theorem dX12_best_110 : decode cX12_best 110 = .ok (.aload_n 0, 1) := by decide +kernel
theorem dX12_best_111 : decode cX12_best 111 = .ok (.invokevirtual 413, 3) := by decide +kernel
theorem dX12_best_114 : decode cX12_best 114 = .ok (.aload_n 0, 1) := by decide +kernel
theorem dX12_best_115 : decode cX12_best 115 = .ok (.iload 5, 2) := by decide +kernel
theorem dX12_best_117 : decode cX12_best 117 = .ok (.invokevirtual 416, 3) := by decide +kernel
theorem dX12_best_120 : decode cX12_best 120 = .ok (.ifCond .ne 6, 3) := by decide +kernel
theorem dX12_best_126 : decode cX12_best 126 = .ok (.iload 5, 2) := by decide +kernel
theorem dX12_best_128 : decode cX12_best 128 = .ok (.istore_n 3, 1) := by decide +kernel
theorem dX12_best_129 : decode cX12_best 129 = .ok (.iload 6, 2) := by decide +kernel
theorem dX12_best_131 : decode cX12_best 131 = .ok (.istore 4, 2) := by decide +kernel
theorem dX12_best_123 : decode cX12_best 123 = .ok (.goto 10, 3) := by decide +kernel
theorem dX12_best_107 : decode cX12_best 107 = .ok (.goto 26, 3) := by decide +kernel
theorem dX12_best_92 : decode cX12_best 92 = .ok (.iload 6, 2) := by decide +kernel
theorem dX12_best_94 : decode cX12_best 94 = .ok (.iload 4, 2) := by decide +kernel
theorem dX12_best_96 : decode cX12_best 96 = .ok (.if_icmp .ge 37, 3) := by decide +kernel
theorem dX12_best_63 : decode cX12_best 63 = .ok (.goto 70, 3) := by decide +kernel
theorem dX12_best_19 : decode cX12_best 19 = .ok (.bipush (-5), 2) := by decide +kernel
theorem dX12_best_21 : decode cX12_best 21 = .ok (.ireturn, 1) := by decide +kernel
theorem dX12_best_10 : decode cX12_best 10 = .ok (.iload_n 2, 1) := by decide +kernel
theorem dX12_best_11 : decode cX12_best 11 = .ok (.ireturn, 1) := by decide +kernel
theorem dX12_lose_0 : decode cX12_lose 0 = .ok (.aload_n 0, 1) := by decide +kernel
theorem dX12_lose_1 : decode cX12_lose 1 = .ok (.iload_n 1, 1) := by decide +kernel
theorem dX12_lose_2 : decode cX12_lose 2 = .ok (.invokevirtual 376, 3) := by decide +kernel
theorem dX12_lose_5 : decode cX12_lose 5 = .ok (.istore_n 2, 1) := by decide +kernel
theorem dX12_lose_6 : decode cX12_lose 6 = .ok (.iload_n 2, 1) := by decide +kernel
theorem dX12_lose_7 : decode cX12_lose 7 = .ok (.ifCond .ge 5, 3) := by decide +kernel
theorem dX12_lose_12 : decode cX12_lose 12 = .ok (.aload_n 0, 1) := by decide +kernel
theorem dX12_lose_13 : decode cX12_lose 13 = .ok (.iload_n 1, 1) := by decide +kernel
theorem dX12_lose_14 : decode cX12_lose 14 = .ok (.invokevirtual 363, 3) := by decide +kernel
theorem dX12_lose_17 : decode cX12_lose 17 = .ok (.aload_n 0, 1) := by decide +kernel
theorem dX12_lose_18 : decode cX12_lose 18 = .ok (.invokevirtual 413, 3) := by decide +kernel
theorem dX12_lose_21 : decode cX12_lose 21 = .ok (.aload_n 0, 1) := by decide +kernel
theorem dX12_lose_22 : decode cX12_lose 22 = .ok (.iload_n 1, 1) := by decide +kernel
theorem dX12_lose_23 : decode cX12_lose 23 = .ok (.invokevirtual 332, 3) := by decide +kernel
theorem dX12_lose_26 : decode cX12_lose 26 = .ok (.iconst 0, 1) := by decide +kernel
theorem dX12_lose_27 : decode cX12_lose 27 = .ok (.istore_n 3, 1) := by decide +kernel
theorem dX12_lose_28 : decode cX12_lose 28 = .ok (.iconst 0, 1) := by decide +kernel
theorem dX12_lose_29 : decode cX12_lose 29 = .ok (.istore 4, 2) := by decide +kernel
theorem dX12_lose_31 : decode cX12_lose 31 = .ok (.iload 4, 2) := by decide +kernel
theorem dX12_lose_33 : decode cX12_lose 33 = .ok (.aload_n 0, 1) := by decide +kernel
theorem dX12_lose_34 : decode cX12_lose 34 = .ok (.invokevirtual 203, 3) := by decide +kernel
theorem dX12_lose_37 : decode cX12_lose 37 = .ok (.if_icmp .ge 28, 3) := by decide +kernel
theorem dX12_lose_65 : decode cX12_lose 65 = .ok (.iload_n 3, 1) := by decide +kernel
theorem dX12_lose_66 : decode cX12_lose 66 = .ok (.ireturn, 1) := by decide +kernel
theorem dX12_lose_40 : decode cX12_lose 40 = .ok (.iload_n 3, 1) := by decide +kernel
theorem dX12_lose_41 : decode cX12_lose 41 = .ok (.aload_n 0, 1) := by decide +kernel
theorem dX12_lose_42 : decode cX12_lose 42 = .ok (.getfield 37, 3) := by decide +kernel
theorem dX12_lose_45 : decode cX12_lose 45 = .ok (.iload 4, 2) := by decide +kernel
theorem dX12_lose_47 : decode cX12_lose 47 = .ok (.iaload, 1) := by decide +kernel
theorem dX12_lose_48 : decode cX12_lose 48 = .ok (.iconst 4, 1) := by decide +kernel
theorem dX12_lose_49 : decode cX12_lose 49 = .ok (.if_icmp .ne 7, 3) := by decide +kernel
theorem dX12_lose_56 : decode cX12_lose 56 = .ok (.iconst 0, 1) := by decide +kernel
theorem dX12_lose_57 : decode cX12_lose 57 = .ok (.iadd, 1) := by decide +kernel
theorem dX12_lose_58 : decode cX12_lose 58 = .ok (.istore_n 3, 1) := by decide +kernel
theorem dX12_lose_59 : decode cX12_lose 59 = .ok (.iinc 4 1, 3) := by decide +kernel
theorem dX12_lose_62 : decode cX12_lose 62 = .ok (.goto (-31), 3) := by decide +kernel
theorem dX12_lose_52 : decode cX12_lose 52 = .ok (.iconst 1, 1) := by decide +kernel
theorem dX12_lose_53 : decode cX12_lose 53 = .ok (.goto 4, 3) := by decide +kernel
theorem dX12_lose_10 : decode cX12_lose 10 = .ok (.iload_n 2, 1) := by decide +kernel
theorem dX12_lose_11 : decode cX12_lose 11 = .ok (.ireturn, 1) := by decide +kernel
theorem dX12_alike_0 : decode cX12_alike 0 = .ok (.aload_n 0, 1) := by decide +kernel
theorem dX12_alike_1 : decode cX12_alike 1 = .ok (.iload_n 1, 1) := by decide +kernel
theorem dX12_alike_2 : decode cX12_alike 2 = .ok (.iload_n 2, 1) := by decide +kernel
theorem dX12_alike_3 : decode cX12_alike 3 = .ok (.invokevirtual 419, 3) := by decide +kernel
theorem dX12_alike_6 : decode cX12_alike 6 = .ok (.istore_n 3, 1) := by decide +kernel
theorem dX12_alike_7 : decode cX12_alike 7 = .ok (.iload_n 3, 1) := by decide +kernel
theorem dX12_alike_8 : decode cX12_alike 8 = .ok (.ifCond .ge 5, 3) := by decide +kernel
theorem dX12_alike_13 : decode cX12_alike 13 = .ok (.iconst 0, 1) := by decide +kernel
theorem dX12_alike_14 : decode cX12_alike 14 = .ok (.istore 4, 2) := by decide +kernel
theorem dX12_alike_16 : decode cX12_alike 16 = .ok (.iconst 0, 1) := by decide +kernel
theorem dX12_alike_17 : decode cX12_alike 17 = .ok (.istore 5, 2) := by decide +kernel
theorem dX12_alike_19 : decode cX12_alike 19 = .ok (.iload 5, 2) := by decide +kernel
theorem dX12_alike_21 : decode cX12_alike 21 = .ok (.aload_n 0, 1) := by decide +kernel
theorem dX12_alike_22 : decode cX12_alike 22 = .ok (.invokevirtual 203, 3) := by decide +kernel
theorem dX12_alike_25 : decode cX12_alike 25 = .ok (.if_icmp .ge 56, 3) := by decide +kernel
theorem dX12_alike_81 : decode cX12_alike 81 = .ok (.iload 4, 2) := by decide +kernel
theorem dX12_alike_83 : decode cX12_alike 83 = .ok (.ireturn, 1) := by decide +kernel
theorem dX12_alike_28 : decode cX12_alike 28 = .ok (.iload 4, 2) := by decide +kernel
theorem dX12_alike_30 : decode cX12_alike 30 = .ok (.aload_n 0, 1) := by decide +kernel
theorem dX12_alike_31 : decode cX12_alike 31 = .ok (.iload 5, 2) := by decide +kernel
theorem dX12_alike_33 : decode cX12_alike 33 = .ok (.invokevirtual 206, 3) := by decide +kernel
theorem dX12_alike_36 : decode cX12_alike 36 = .ok (.ifCond .eq 35, 3) := by decide +kernel
theorem dX12_alike_71 : decode cX12_alike 71 = .ok (.iconst 0, 1) := by decide +kernel
theorem dX12_alike_72 : decode cX12_alike 72 = .ok (.iadd, 1) := by decide +kernel
theorem dX12_alike_73 : decode cX12_alike 73 = .ok (.istore 4, 2) := by decide +kernel
theorem dX12_alike_75 : decode cX12_alike 75 = .ok (.iinc 5 1, 3) := by decide +kernel
theorem dX12_alike_78 : decode cX12_alike 78 = .ok (.goto (-59), 3) := by decide +kernel
theorem dX12_alike_39 : decode cX12_alike 39 = .ok (.aload_n 0, 1) := by decide +kernel
theorem dX12_alike_40 : decode cX12_alike 40 = .ok (.iload_n 1, 1) := by decide +kernel
theorem dX12_alike_41 : decode cX12_alike 41 = .ok (.iload 5, 2) := by decide +kernel
theorem dX12_alike_43 : decode cX12_alike 43 = .ok (.invokevirtual 301, 3) := by decide +kernel
theorem dX12_alike_46 : decode cX12_alike 46 = .ok (.iconst 4, 1) := by decide +kernel
theorem dX12_alike_47 : decode cX12_alike 47 = .ok (.if_icmp .eq 24, 3) := by decide +kernel
theorem dX12_alike_50 : decode cX12_alike 50 = .ok (.aload_n 0, 1) := by decide +kernel
theorem dX12_alike_51 : decode cX12_alike 51 = .ok (.iload_n 1, 1) := by decide +kernel
theorem dX12_alike_52 : decode cX12_alike 52 = .ok (.iload 5, 2) := by decide +kernel
theorem dX12_alike_54 : decode cX12_alike 54 = .ok (.invokevirtual 301, 3) := by decide +kernel
theorem dX12_alike_57 : decode cX12_alike 57 = .ok (.aload_n 0, 1) := by decide +kernel
theorem dX12_alike_58 : decode cX12_alike 58 = .ok (.iload_n 2, 1) := by decide +kernel
theorem dX12_alike_59 : decode cX12_alike 59 = .ok (.iload 5, 2) := by decide +kernel
theorem dX12_alike_61 : decode cX12_alike 61 = .ok (.invokevirtual 301, 3) := by decide +kernel
theorem dX12_alike_64 : decode cX12_alike 64 = .ok (.if_icmp .ne 7, 3) := by decide +kernel
theorem dX12_alike_67 : decode cX12_alike 67 = .ok (.iconst 1, 1) := by decide +kernel
theorem dX12_alike_68 : decode cX12_alike 68 = .ok (.goto 4, 3) := by decide +kernel
theorem dX12_alike_11 : decode cX12_alike 11 = .ok (.iload_n 3, 1) := by decide +kernel
theorem dX12_alike_12 : decode cX12_alike 12 = .ok (.ireturn, 1) := by decide +kernel
theorem dX12_same_0 : decode cX12_same 0 = .ok (.iload_n 3, 1) := by decide +kernel
theorem dX12_same_1 : decode cX12_same 1 = .ok (.invokestatic 221, 3) := by decide +kernel
theorem dX12_same_4 : decode cX12_same 4 = .ok (.ifCond .ne 6, 3) := by decide +kernel
theorem dX12_same_10 : decode cX12_same 10 = .ok (.aload_n 0, 1) := by decide +kernel
theorem dX12_same_11 : decode cX12_same 11 = .ok (.iload_n 1, 1) := by decide +kernel
theorem dX12_same_12 : decode cX12_same 12 = .ok (.iload_n 2, 1) := by decide +kernel
theorem dX12_same_13 : decode cX12_same 13 = .ok (.invokevirtual 419, 3) := by decide +kernel
theorem dX12_same_16 : decode cX12_same 16 = .ok (.istore 4, 2) := by decide +kernel
theorem dX12_same_18 : decode cX12_same 18 = .ok (.iload 4, 2) := by decide +kernel
theorem dX12_same_20 : decode cX12_same 20 = .ok (.ifCond .ge 6, 3) := by decide +kernel
theorem dX12_same_26 : decode cX12_same 26 = .ok (.aload_n 0, 1) := by decide +kernel
theorem dX12_same_27 : decode cX12_same 27 = .ok (.iload_n 3, 1) := by decide +kernel
theorem dX12_same_28 : decode cX12_same 28 = .ok (.invokevirtual 354, 3) := by decide +kernel
theorem dX12_same_31 : decode cX12_same 31 = .ok (.ifCond .ne 6, 3) := by decide +kernel
theorem dX12_same_37 : decode cX12_same 37 = .ok (.aload_n 0, 1) := by decide +kernel
theorem dX12_same_38 : decode cX12_same 38 = .ok (.iload_n 3, 1) := by decide +kernel
theorem dX12_same_39 : decode cX12_same 39 = .ok (.invokevirtual 241, 3) := by decide +kernel
theorem dX12_same_42 : decode cX12_same 42 = .ok (.istore 5, 2) := by decide +kernel
theorem dX12_same_44 : decode cX12_same 44 = .ok (.aload_n 0, 1) := by decide +kernel
theorem dX12_same_45 : decode cX12_same 45 = .ok (.iload_n 1, 1) := by decide +kernel
theorem dX12_same_46 : decode cX12_same 46 = .ok (.invokevirtual 363, 3) := by decide +kernel
theorem dX12_same_49 : decode cX12_same 49 = .ok (.iconst 0, 1) := by decide +kernel
theorem dX12_same_50 : decode cX12_same 50 = .ok (.istore 6, 2) := by decide +kernel
theorem dX12_same_52 : decode cX12_same 52 = .ok (.iload 6, 2) := by decide +kernel
theorem dX12_same_54 : decode cX12_same 54 = .ok (.iload 5, 2) := by decide +kernel
theorem dX12_same_56 : decode cX12_same 56 = .ok (.if_icmp .ge 23, 3) := by decide +kernel
theorem dX12_same_79 : decode cX12_same 79 = .ok (.aload_n 0, 1) := by decide +kernel
theorem dX12_same_80 : decode cX12_same 80 = .ok (.iload_n 2, 1) := by decide +kernel
theorem dX12_same_81 : decode cX12_same 81 = .ok (.invokevirtual 363, 3) := by decide +kernel
theorem dX12_same_84 : decode cX12_same 84 = .ok (.iconst 0, 1) := by decide +kernel
theorem dX12_same_85 : decode cX12_same 85 = .ok (.istore 6, 2) := by decide +kernel
theorem dX12_same_87 : decode cX12_same 87 = .ok (.iconst 0, 1) := by decide +kernel
theorem dX12_same_88 : decode cX12_same 88 = .ok (.istore 7, 2) := by decide +kernel
theorem dX12_same_90 : decode cX12_same 90 = .ok (.iload 7, 2) := by decide +kernel
theorem dX12_same_92 : decode cX12_same 92 = .ok (.iload 5, 2) := by decide +kernel
theorem dX12_same_94 : decode cX12_same 94 = .ok (.if_icmp .ge 47, 3) := by decide +kernel
theorem dX12_same_141 : decode cX12_same 141 = .ok (.iload 6, 2) := by decide +kernel
theorem dX12_same_143 : decode cX12_same 143 = .ok (.ireturn, 1) := by decide +kernel
theorem dX12_same_97 : decode cX12_same 97 = .ok (.iload 6, 2) := by decide +kernel
theorem dX12_same_99 : decode cX12_same 99 = .ok (.aload_n 0, 1) := by decide +kernel
theorem dX12_same_100 : decode cX12_same 100 = .ok (.getfield 58, 3) := by decide +kernel
theorem dX12_same_103 : decode cX12_same 103 = .ok (.iload 7, 2) := by decide +kernel
theorem dX12_same_105 : decode cX12_same 105 = .ok (.iaload, 1) := by decide +kernel
theorem dX12_same_106 : decode cX12_same 106 = .ok (.iconst 2, 1) := by decide +kernel
theorem dX12_same_107 : decode cX12_same 107 = .ok (.if_icmp .ge 24, 3) := by decide +kernel
theorem dX12_same_131 : decode cX12_same 131 = .ok (.iconst 0, 1) := by decide +kernel
theorem dX12_same_132 : decode cX12_same 132 = .ok (.iadd, 1) := by decide +kernel
theorem dX12_same_133 : decode cX12_same 133 = .ok (.istore 6, 2) := by decide +kernel
theorem dX12_same_135 : decode cX12_same 135 = .ok (.iinc 7 1, 3) := by decide +kernel
theorem dX12_same_138 : decode cX12_same 138 = .ok (.goto (-48), 3) := by decide +kernel
theorem dX12_same_110 : decode cX12_same 110 = .ok (.aload_n 0, 1) := by decide +kernel
theorem dX12_same_111 : decode cX12_same 111 = .ok (.getfield 58, 3) := by decide +kernel
theorem dX12_same_114 : decode cX12_same 114 = .ok (.iload 7, 2) := by decide +kernel
theorem dX12_same_116 : decode cX12_same 116 = .ok (.iaload, 1) := by decide +kernel
theorem dX12_same_117 : decode cX12_same 117 = .ok (.aload_n 0, 1) := by decide +kernel
theorem dX12_same_118 : decode cX12_same 118 = .ok (.iload_n 3, 1) := by decide +kernel
theorem dX12_same_119 : decode cX12_same 119 = .ok (.iload 7, 2) := by decide +kernel
theorem dX12_same_121 : decode cX12_same 121 = .ok (.invokevirtual 370, 3) := by decide +kernel
theorem dX12_same_124 : decode cX12_same 124 = .ok (.if_icmp .ne 7, 3) := by decide +kernel
theorem dX12_same_127 : decode cX12_same 127 = .ok (.iconst 1, 1) := by decide +kernel
theorem dX12_same_128 : decode cX12_same 128 = .ok (.goto 4, 3) := by decide +kernel
theorem dX12_same_59 : decode cX12_same 59 = .ok (.aload_n 0, 1) := by decide +kernel
theorem dX12_same_60 : decode cX12_same 60 = .ok (.getfield 58, 3) := by decide +kernel
theorem dX12_same_63 : decode cX12_same 63 = .ok (.iload 6, 2) := by decide +kernel
theorem dX12_same_65 : decode cX12_same 65 = .ok (.aload_n 0, 1) := by decide +kernel
theorem dX12_same_66 : decode cX12_same 66 = .ok (.iload_n 3, 1) := by decide +kernel
theorem dX12_same_67 : decode cX12_same 67 = .ok (.iload 6, 2) := by decide +kernel
theorem dX12_same_69 : decode cX12_same 69 = .ok (.invokevirtual 370, 3) := by decide +kernel
theorem dX12_same_72 : decode cX12_same 72 = .ok (.iastore, 1) := by decide +kernel
theorem dX12_same_73 : decode cX12_same 73 = .ok (.iinc 6 1, 3) := by decide +kernel
theorem dX12_same_76 : decode cX12_same 76 = .ok (.goto (-24), 3) := by decide +kernel
theorem dX12_same_34 : decode cX12_same 34 = .ok (.bipush (-6), 2) := by decide +kernel
theorem dX12_same_36 : decode cX12_same 36 = .ok (.ireturn, 1) := by decide +kernel
theorem dX12_same_23 : decode cX12_same 23 = .ok (.iload 4, 2) := by decide +kernel
theorem dX12_same_25 : decode cX12_same 25 = .ok (.ireturn, 1) := by decide +kernel
theorem dX12_same_7 : decode cX12_same 7 = .ok (.bipush (-2), 2) := by decide +kernel
theorem dX12_same_9 : decode cX12_same 9 = .ok (.ireturn, 1) := by decide +kernel
theorem dX12_unravels_0 : decode cX12_unravels 0 = .ok (.iconst 0, 1) := by decide +kernel
theorem dX12_unravels_1 : decode cX12_unravels 1 = .ok (.istore_n 1, 1) := by decide +kernel
theorem dX12_unravels_2 : decode cX12_unravels 2 = .ok (.aload_n 0, 1) := by decide +kernel
theorem dX12_unravels_3 : decode cX12_unravels 3 = .ok (.invokevirtual 83, 3) := by decide +kernel
theorem dX12_unravels_6 : decode cX12_unravels 6 = .ok (.iconst 1, 1) := by decide +kernel
theorem dX12_unravels_7 : decode cX12_unravels 7 = .ok (.isub, 1) := by decide +kernel
theorem dX12_unravels_8 : decode cX12_unravels 8 = .ok (.istore_n 2, 1) := by decide +kernel
theorem dX12_unravels_9 : decode cX12_unravels 9 = .ok (.iload_n 2, 1) := by decide +kernel
theorem dX12_unravels_10 : decode cX12_unravels 10 = .ok (.ifCond .lt 78, 3) := by decide +kernel
theorem dX12_unravels_88 : decode cX12_unravels 88 = .ok (.iload_n 1, 1) := by decide +kernel
theorem dX12_unravels_89 : decode cX12_unravels 89 = .ok (.ireturn, 1) := by decide +kernel
theorem dX12_unravels_13 : decode cX12_unravels 13 = .ok (.iconst 0, 1) := by decide +kernel
theorem dX12_unravels_14 : decode cX12_unravels 14 = .ok (.istore_n 3, 1) := by decide +kernel
theorem dX12_unravels_15 : decode cX12_unravels 15 = .ok (.iload_n 3, 1) := by decide +kernel
theorem dX12_unravels_16 : decode cX12_unravels 16 = .ok (.aload_n 0, 1) := by decide +kernel
theorem dX12_unravels_17 : decode cX12_unravels 17 = .ok (.invokevirtual 87, 3) := by decide +kernel
theorem dX12_unravels_20 : decode cX12_unravels 20 = .ok (.if_icmp .ge 62, 3) := by decide +kernel
theorem dX12_unravels_82 : decode cX12_unravels 82 = .ok (.iinc 2 (-1), 3) := by decide +kernel
theorem dX12_unravels_85 : decode cX12_unravels 85 = .ok (.goto (-76), 3) := by decide +kernel
theorem dX12_unravels_23 : decode cX12_unravels 23 = .ok (.aload_n 0, 1) := by decide +kernel
theorem dX12_unravels_24 : decode cX12_unravels 24 = .ok (.getfield 37, 3) := by decide +kernel
theorem dX12_unravels_27 : decode cX12_unravels 27 = .ok (.iload_n 2, 1) := by decide +kernel
theorem dX12_unravels_28 : decode cX12_unravels 28 = .ok (.aload_n 0, 1) := by decide +kernel
theorem dX12_unravels_29 : decode cX12_unravels 29 = .ok (.invokevirtual 87, 3) := by decide +kernel
theorem dX12_unravels_32 : decode cX12_unravels 32 = .ok (.imul, 1) := by decide +kernel
theorem dX12_unravels_33 : decode cX12_unravels 33 = .ok (.iload_n 2, 1) := by decide +kernel
theorem dX12_unravels_34 : decode cX12_unravels 34 = .ok (.iconst 2, 1) := by decide +kernel
theorem dX12_unravels_35 : decode cX12_unravels 35 = .ok (.irem, 1) := by decide +kernel
theorem dX12_unravels_36 : decode cX12_unravels 36 = .ok (.iconst 1, 1) := by decide +kernel
theorem dX12_unravels_52 : decode cX12_unravels 52 = .ok (.iadd, 1) := by decide +kernel
theorem dX12_unravels_53 : decode cX12_unravels 53 = .ok (.iaload, 1) := by decide +kernel
theorem dX12_unravels_54 : decode cX12_unravels 54 = .ok (.istore 4, 2) := by decide +kernel
theorem dX12_unravels_56 : decode cX12_unravels 56 = .ok (.iload 4, 2) := by decide +kernel
theorem dX12_unravels_58 : decode cX12_unravels 58 = .ok (.iconst 4, 1) := by decide +kernel
theorem dX12_unravels_59 : decode cX12_unravels 59 = .ok (.if_icmp .ne 6, 3) := by decide +kernel
theorem dX12_unravels_65 : decode cX12_unravels 65 = .ok (.aload_n 0, 1) := by decide +kernel
theorem dX12_unravels_66 : decode cX12_unravels 66 = .ok (.getfield 61, 3) := by decide +kernel
theorem dX12_unravels_69 : decode cX12_unravels 69 = .ok (.iload_n 1, 1) := by decide +kernel
theorem dX12_unravels_70 : decode cX12_unravels 70 = .ok (.iload 4, 2) := by decide +kernel
theorem dX12_unravels_72 : decode cX12_unravels 72 = .ok (.iastore, 1) := by decide +kernel
theorem dX12_unravels_73 : decode cX12_unravels 73 = .ok (.iinc 1 1, 3) := by decide +kernel
theorem dX12_unravels_76 : decode cX12_unravels 76 = .ok (.iinc 3 1, 3) := by decide +kernel
theorem dX12_unravels_79 : decode cX12_unravels 79 = .ok (.goto (-64), 3) := by decide +kernel
theorem dX12_unravels_62 : decode cX12_unravels 62 = .ok (.goto 14, 3) := by decide +kernel
theorem dX12_unravels_37 : decode cX12_unravels 37 = .ok (.if_icmp .ne 7, 3) := by decide +kernel
theorem dX12_unravels_44 : decode cX12_unravels 44 = .ok (.aload_n 0, 1) := by decide +kernel
theorem dX12_unravels_45 : decode cX12_unravels 45 = .ok (.invokevirtual 87, 3) := by decide +kernel
theorem dX12_unravels_48 : decode cX12_unravels 48 = .ok (.iconst 1, 1) := by decide +kernel
theorem dX12_unravels_49 : decode cX12_unravels 49 = .ok (.isub, 1) := by decide +kernel
theorem dX12_unravels_50 : decode cX12_unravels 50 = .ok (.iload_n 3, 1) := by decide +kernel
theorem dX12_unravels_51 : decode cX12_unravels 51 = .ok (.isub, 1) := by decide +kernel
theorem dX12_unravels_40 : decode cX12_unravels 40 = .ok (.iload_n 3, 1) := by decide +kernel
theorem dX12_unravels_41 : decode cX12_unravels 41 = .ok (.goto 11, 3) := by decide +kernel
theorem dX12_ball_0 : decode cX12_ball 0 = .ok (.aload_n 0, 1) := by decide +kernel
theorem dX12_ball_1 : decode cX12_ball 1 = .ok (.iload_n 1, 1) := by decide +kernel
theorem dX12_ball_2 : decode cX12_ball 2 = .ok (.invokevirtual 376, 3) := by decide +kernel
theorem dX12_ball_5 : decode cX12_ball 5 = .ok (.istore_n 3, 1) := by decide +kernel
theorem dX12_ball_6 : decode cX12_ball 6 = .ok (.iload_n 3, 1) := by decide +kernel
theorem dX12_ball_7 : decode cX12_ball 7 = .ok (.ifCond .ge 5, 3) := by decide +kernel
theorem dX12_ball_12 : decode cX12_ball 12 = .ok (.aload_n 0, 1) := by decide +kernel
theorem dX12_ball_13 : decode cX12_ball 13 = .ok (.iload_n 1, 1) := by decide +kernel
theorem dX12_ball_14 : decode cX12_ball 14 = .ok (.invokevirtual 363, 3) := by decide +kernel
theorem dX12_ball_17 : decode cX12_ball 17 = .ok (.iload_n 2, 1) := by decide +kernel
theorem dX12_ball_18 : decode cX12_ball 18 = .ok (.i2l, 1) := by decide +kernel
theorem dX12_ball_19 : decode cX12_ball 19 = .ok (.lconst 0, 1) := by decide +kernel
theorem dX12_ball_20 : decode cX12_ball 20 = .ok (.aload_n 0, 1) := by decide +kernel
theorem dX12_ball_21 : decode cX12_ball 21 = .ok (.invokevirtual 422, 3) := by decide +kernel
theorem dX12_ball_24 : decode cX12_ball 24 = .ok (.iconst 1, 1) := by decide +kernel
theorem dX12_ball_25 : decode cX12_ball 25 = .ok (.isub, 1) := by decide +kernel
theorem dX12_ball_26 : decode cX12_ball 26 = .ok (.i2l, 1) := by decide +kernel
theorem dX12_ball_27 : decode cX12_ball 27 = .ok (.invokestatic 79, 3) := by decide +kernel
theorem dX12_ball_30 : decode cX12_ball 30 = .ok (.ifCond .eq 12, 3) := by decide +kernel
theorem dX12_ball_42 : decode cX12_ball 42 = .ok (.iconst (-1), 1) := by decide +kernel
theorem dX12_ball_43 : decode cX12_ball 43 = .ok (.ireturn, 1) := by decide +kernel
theorem dX12_ball_33 : decode cX12_ball 33 = .ok (.aload_n 0, 1) := by decide +kernel
theorem dX12_ball_34 : decode cX12_ball 34 = .ok (.getfield 61, 3) := by decide +kernel
theorem dX12_ball_37 : decode cX12_ball 37 = .ok (.iload_n 2, 1) := by decide +kernel
theorem dX12_ball_38 : decode cX12_ball 38 = .ok (.iaload, 1) := by decide +kernel
theorem dX12_ball_39 : decode cX12_ball 39 = .ok (.goto 4, 3) := by decide +kernel
theorem dX12_ball_10 : decode cX12_ball 10 = .ok (.iload_n 3, 1) := by decide +kernel
theorem dX12_ball_11 : decode cX12_ball 11 = .ok (.ireturn, 1) := by decide +kernel
theorem dX12_rewind_0 : decode cX12_rewind 0 = .ok (.iload_n 1, 1) := by decide +kernel
theorem dX12_rewind_1 : decode cX12_rewind 1 = .ok (.invokestatic 319, 3) := by decide +kernel
theorem dX12_rewind_4 : decode cX12_rewind 4 = .ok (.ifCond .eq 10, 3) := by decide +kernel
theorem dX12_rewind_14 : decode cX12_rewind 14 = .ok (.bipush (-2), 2) := by decide +kernel
theorem dX12_rewind_16 : decode cX12_rewind 16 = .ok (.ireturn, 1) := by decide +kernel
theorem dX12_rewind_7 : decode cX12_rewind 7 = .ok (.iload_n 2, 1) := by decide +kernel
theorem dX12_rewind_8 : decode cX12_rewind 8 = .ok (.invokestatic 319, 3) := by decide +kernel
theorem dX12_rewind_11 : decode cX12_rewind 11 = .ok (.ifCond .ne 6, 3) := by decide +kernel
theorem dX12_rewind_17 : decode cX12_rewind 17 = .ok (.aload_n 0, 1) := by decide +kernel
theorem dX12_rewind_18 : decode cX12_rewind 18 = .ok (.iload_n 1, 1) := by decide +kernel
theorem dX12_rewind_19 : decode cX12_rewind 19 = .ok (.invokevirtual 351, 3) := by decide +kernel
theorem dX12_rewind_22 : decode cX12_rewind 22 = .ok (.ifCond .ne 6, 3) := by decide +kernel
theorem dX12_rewind_28 : decode cX12_rewind 28 = .ok (.aload_n 0, 1) := by decide +kernel
theorem dX12_rewind_29 : decode cX12_rewind 29 = .ok (.iload_n 1, 1) := by decide +kernel
theorem dX12_rewind_30 : decode cX12_rewind 30 = .ok (.invokevirtual 363, 3) := by decide +kernel
theorem dX12_rewind_33 : decode cX12_rewind 33 = .ok (.aload_n 0, 1) := by decide +kernel
theorem dX12_rewind_34 : decode cX12_rewind 34 = .ok (.invokevirtual 422, 3) := by decide +kernel
theorem dX12_rewind_37 : decode cX12_rewind 37 = .ok (.istore_n 3, 1) := by decide +kernel
theorem dX12_rewind_38 : decode cX12_rewind 38 = .ok (.iconst 0, 1) := by decide +kernel
theorem dX12_rewind_39 : decode cX12_rewind 39 = .ok (.istore 4, 2) := by decide +kernel
theorem dX12_rewind_41 : decode cX12_rewind 41 = .ok (.iconst 0, 1) := by decide +kernel
theorem dX12_rewind_42 : decode cX12_rewind 42 = .ok (.istore 5, 2) := by decide +kernel
theorem dX12_rewind_44 : decode cX12_rewind 44 = .ok (.iload 5, 2) := by decide +kernel
theorem dX12_rewind_46 : decode cX12_rewind 46 = .ok (.aload_n 0, 1) := by decide +kernel
theorem dX12_rewind_47 : decode cX12_rewind 47 = .ok (.invokevirtual 83, 3) := by decide +kernel
theorem dX12_rewind_50 : decode cX12_rewind 50 = .ok (.if_icmp .ge 108, 3) := by decide +kernel
theorem dX12_rewind_158 : decode cX12_rewind 158 = .ok (.aload_n 0, 1) := by decide +kernel
theorem dX12_rewind_159 : decode cX12_rewind 159 = .ok (.iload_n 2, 1) := by decide +kernel
theorem dX12_rewind_160 : decode cX12_rewind 160 = .ok (.invokevirtual 332, 3) := by decide +kernel
theorem dX12_rewind_163 : decode cX12_rewind 163 = .ok (.iload 4, 2) := by decide +kernel
theorem dX12_rewind_165 : decode cX12_rewind 165 = .ok (.ireturn, 1) := by decide +kernel
theorem dX12_rewind_53 : decode cX12_rewind 53 = .ok (.iconst 0, 1) := by decide +kernel
theorem dX12_rewind_54 : decode cX12_rewind 54 = .ok (.istore 6, 2) := by decide +kernel
theorem dX12_rewind_56 : decode cX12_rewind 56 = .ok (.iload 6, 2) := by decide +kernel
theorem dX12_rewind_58 : decode cX12_rewind 58 = .ok (.aload_n 0, 1) := by decide +kernel
theorem dX12_rewind_59 : decode cX12_rewind 59 = .ok (.invokevirtual 87, 3) := by decide +kernel
theorem dX12_rewind_62 : decode cX12_rewind 62 = .ok (.if_icmp .ge 90, 3) := by decide +kernel
theorem dX12_rewind_152 : decode cX12_rewind 152 = .ok (.iinc 5 1, 3) := by decide +kernel
theorem dX12_rewind_155 : decode cX12_rewind 155 = .ok (.goto (-111), 3) := by decide +kernel
theorem dX12_rewind_65 : decode cX12_rewind 65 = .ok (.iload 5, 2) := by decide +kernel
theorem dX12_rewind_67 : decode cX12_rewind 67 = .ok (.aload_n 0, 1) := by decide +kernel
theorem dX12_rewind_68 : decode cX12_rewind 68 = .ok (.invokevirtual 87, 3) := by decide +kernel
theorem dX12_rewind_71 : decode cX12_rewind 71 = .ok (.imul, 1) := by decide +kernel
theorem dX12_rewind_72 : decode cX12_rewind 72 = .ok (.iload 5, 2) := by decide +kernel
theorem dX12_rewind_74 : decode cX12_rewind 74 = .ok (.iconst 2, 1) := by decide +kernel
theorem dX12_rewind_75 : decode cX12_rewind 75 = .ok (.irem, 1) := by decide +kernel
theorem dX12_rewind_93 : decode cX12_rewind 93 = .ok (.iadd, 1) := by decide +kernel
theorem dX12_rewind_94 : decode cX12_rewind 94 = .ok (.istore 7, 2) := by decide +kernel
theorem dX12_rewind_96 : decode cX12_rewind 96 = .ok (.iinc 3 (-1), 3) := by decide +kernel
theorem dX12_rewind_99 : decode cX12_rewind 99 = .ok (.iload_n 3, 1) := by decide +kernel
theorem dX12_rewind_113 : decode cX12_rewind 113 = .ok (.istore 8, 2) := by decide +kernel
theorem dX12_rewind_115 : decode cX12_rewind 115 = .ok (.iload 4, 2) := by decide +kernel
theorem dX12_rewind_117 : decode cX12_rewind 117 = .ok (.iload 8, 2) := by decide +kernel
theorem dX12_rewind_119 : decode cX12_rewind 119 = .ok (.aload_n 0, 1) := by decide +kernel
theorem dX12_rewind_120 : decode cX12_rewind 120 = .ok (.getfield 37, 3) := by decide +kernel
theorem dX12_rewind_123 : decode cX12_rewind 123 = .ok (.iload 7, 2) := by decide +kernel
theorem dX12_rewind_125 : decode cX12_rewind 125 = .ok (.iaload, 1) := by decide +kernel
theorem dX12_rewind_126 : decode cX12_rewind 126 = .ok (.if_icmp .ne 7, 3) := by decide +kernel
theorem dX12_rewind_133 : decode cX12_rewind 133 = .ok (.iconst 1, 1) := by decide +kernel
theorem dX12_rewind_134 : decode cX12_rewind 134 = .ok (.iadd, 1) := by decide +kernel
theorem dX12_rewind_135 : decode cX12_rewind 135 = .ok (.istore 4, 2) := by decide +kernel
theorem dX12_rewind_137 : decode cX12_rewind 137 = .ok (.aload_n 0, 1) := by decide +kernel
theorem dX12_rewind_138 : decode cX12_rewind 138 = .ok (.getfield 37, 3) := by decide +kernel
theorem dX12_rewind_141 : decode cX12_rewind 141 = .ok (.iload 7, 2) := by decide +kernel
theorem dX12_rewind_143 : decode cX12_rewind 143 = .ok (.iload 8, 2) := by decide +kernel
theorem dX12_rewind_145 : decode cX12_rewind 145 = .ok (.iastore, 1) := by decide +kernel
theorem dX12_rewind_146 : decode cX12_rewind 146 = .ok (.iinc 6 1, 3) := by decide +kernel
theorem dX12_rewind_149 : decode cX12_rewind 149 = .ok (.goto (-93), 3) := by decide +kernel
theorem dX12_rewind_129 : decode cX12_rewind 129 = .ok (.iconst 0, 1) := by decide +kernel
theorem dX12_rewind_130 : decode cX12_rewind 130 = .ok (.goto 4, 3) := by decide +kernel
theorem dX12_rewind_100 : decode cX12_rewind 100 = .ok (.ifCond .lt 12, 3) := by decide +kernel
theorem dX12_rewind_112 : decode cX12_rewind 112 = .ok (.iconst 4, 1) := by decide +kernel
theorem dX12_rewind_103 : decode cX12_rewind 103 = .ok (.aload_n 0, 1) := by decide +kernel
theorem dX12_rewind_104 : decode cX12_rewind 104 = .ok (.getfield 61, 3) := by decide +kernel
theorem dX12_rewind_107 : decode cX12_rewind 107 = .ok (.iload_n 3, 1) := by decide +kernel
theorem dX12_rewind_108 : decode cX12_rewind 108 = .ok (.iaload, 1) := by decide +kernel
theorem dX12_rewind_109 : decode cX12_rewind 109 = .ok (.goto 4, 3) := by decide +kernel
theorem dX12_rewind_76 : decode cX12_rewind 76 = .ok (.ifCond .ne 8, 3) := by decide +kernel
theorem dX12_rewind_84 : decode cX12_rewind 84 = .ok (.aload_n 0, 1) := by decide +kernel
theorem dX12_rewind_85 : decode cX12_rewind 85 = .ok (.invokevirtual 87, 3) := by decide +kernel
theorem dX12_rewind_88 : decode cX12_rewind 88 = .ok (.iconst 1, 1) := by decide +kernel
theorem dX12_rewind_89 : decode cX12_rewind 89 = .ok (.isub, 1) := by decide +kernel
theorem dX12_rewind_90 : decode cX12_rewind 90 = .ok (.iload 6, 2) := by decide +kernel
theorem dX12_rewind_92 : decode cX12_rewind 92 = .ok (.isub, 1) := by decide +kernel
theorem dX12_rewind_79 : decode cX12_rewind 79 = .ok (.iload 6, 2) := by decide +kernel
theorem dX12_rewind_81 : decode cX12_rewind 81 = .ok (.goto 12, 3) := by decide +kernel
theorem dX12_rewind_25 : decode cX12_rewind 25 = .ok (.bipush (-6), 2) := by decide +kernel
theorem dX12_rewind_27 : decode cX12_rewind 27 = .ok (.ireturn, 1) := by decide +kernel
theorem dX12_copy_0 : decode cX12_copy 0 = .ok (.iload_n 1, 1) := by decide +kernel
theorem dX12_copy_1 : decode cX12_copy 1 = .ok (.invokestatic 319, 3) := by decide +kernel
theorem dX12_copy_4 : decode cX12_copy 4 = .ok (.ifCond .eq 10, 3) := by decide +kernel
theorem dX12_copy_14 : decode cX12_copy 14 = .ok (.bipush (-2), 2) := by decide +kernel
theorem dX12_copy_16 : decode cX12_copy 16 = .ok (.ireturn, 1) := by decide +kernel
theorem dX12_copy_7 : decode cX12_copy 7 = .ok (.iload_n 2, 1) := by decide +kernel
theorem dX12_copy_8 : decode cX12_copy 8 = .ok (.invokestatic 319, 3) := by decide +kernel
theorem dX12_copy_11 : decode cX12_copy 11 = .ok (.ifCond .ne 6, 3) := by decide +kernel
theorem dX12_copy_17 : decode cX12_copy 17 = .ok (.aload_n 0, 1) := by decide +kernel
theorem dX12_copy_18 : decode cX12_copy 18 = .ok (.iload_n 1, 1) := by decide +kernel
theorem dX12_copy_19 : decode cX12_copy 19 = .ok (.invokevirtual 351, 3) := by decide +kernel
theorem dX12_copy_22 : decode cX12_copy 22 = .ok (.ifCond .ne 6, 3) := by decide +kernel
theorem dX12_copy_28 : decode cX12_copy 28 = .ok (.aload_n 0, 1) := by decide +kernel
theorem dX12_copy_29 : decode cX12_copy 29 = .ok (.iload_n 1, 1) := by decide +kernel
theorem dX12_copy_30 : decode cX12_copy 30 = .ok (.invokevirtual 363, 3) := by decide +kernel
theorem dX12_copy_33 : decode cX12_copy 33 = .ok (.aload_n 0, 1) := by decide +kernel
theorem dX12_copy_34 : decode cX12_copy 34 = .ok (.iload_n 2, 1) := by decide +kernel
theorem dX12_copy_35 : decode cX12_copy 35 = .ok (.invokevirtual 332, 3) := by decide +kernel
theorem dX12_copy_38 : decode cX12_copy 38 = .ok (.iconst 0, 1) := by decide +kernel
theorem dX12_copy_39 : decode cX12_copy 39 = .ok (.ireturn, 1) := by decide +kernel
theorem dX12_copy_25 : decode cX12_copy 25 = .ok (.bipush (-6), 2) := by decide +kernel
theorem dX12_copy_27 : decode cX12_copy 27 = .ok (.ireturn, 1) := by decide +kernel
theorem dX12_turn_0 : decode cX12_turn 0 = .ok (.iload_n 1, 1) := by decide +kernel
theorem dX12_turn_1 : decode cX12_turn 1 = .ok (.invokestatic 319, 3) := by decide +kernel
theorem dX12_turn_4 : decode cX12_turn 4 = .ok (.ifCond .eq 27, 3) := by decide +kernel
theorem dX12_turn_31 : decode cX12_turn 31 = .ok (.bipush (-2), 2) := by decide +kernel
theorem dX12_turn_33 : decode cX12_turn 33 = .ok (.ireturn, 1) := by decide +kernel
theorem dX12_turn_7 : decode cX12_turn 7 = .ok (.aload_n 0, 1) := by decide +kernel
theorem dX12_turn_8 : decode cX12_turn 8 = .ok (.iload_n 2, 1) := by decide +kernel
theorem dX12_turn_9 : decode cX12_turn 9 = .ok (.iload_n 3, 1) := by decide +kernel
theorem dX12_turn_10 : decode cX12_turn 10 = .ok (.invokevirtual 379, 3) := by decide +kernel
theorem dX12_turn_13 : decode cX12_turn 13 = .ok (.ifCond .eq 18, 3) := by decide +kernel
theorem dX12_turn_16 : decode cX12_turn 16 = .ok (.aload_n 0, 1) := by decide +kernel
theorem dX12_turn_17 : decode cX12_turn 17 = .ok (.iload_n 2, 1) := by decide +kernel
theorem dX12_turn_18 : decode cX12_turn 18 = .ok (.aload_n 0, 1) := by decide +kernel
theorem dX12_turn_19 : decode cX12_turn 19 = .ok (.invokevirtual 87, 3) := by decide +kernel
theorem dX12_turn_22 : decode cX12_turn 22 = .ok (.imul, 1) := by decide +kernel
theorem dX12_turn_23 : decode cX12_turn 23 = .ok (.iload_n 3, 1) := by decide +kernel
theorem dX12_turn_24 : decode cX12_turn 24 = .ok (.iadd, 1) := by decide +kernel
theorem dX12_turn_25 : decode cX12_turn 25 = .ok (.invokevirtual 206, 3) := by decide +kernel
theorem dX12_turn_28 : decode cX12_turn 28 = .ok (.ifCond .ne 6, 3) := by decide +kernel
