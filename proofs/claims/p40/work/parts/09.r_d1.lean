theorem dX12_back_2 : decode cX12_back 2 = .ok (.lconst 0, 1) := by decide +kernel
theorem dX12_back_3 : decode cX12_back 3 = .ok (.ldc2_w 77, 3) := by decide +kernel
theorem dX12_back_6 : decode cX12_back 6 = .ok (.invokestatic 79, 3) := by decide +kernel
theorem dX12_back_9 : decode cX12_back 9 = .ok (.ifCond .ne 6, 3) := by decide +kernel
theorem dX12_back_15 : decode cX12_back 15 = .ok (.aload_n 0, 1) := by decide +kernel
theorem dX12_back_16 : decode cX12_back 16 = .ok (.getfield 20, 3) := by decide +kernel
theorem dX12_back_19 : decode cX12_back 19 = .ok (.iload_n 1, 1) := by decide +kernel
theorem dX12_back_20 : decode cX12_back 20 = .ok (.baload, 1) := by decide +kernel
theorem dX12_back_21 : decode cX12_back 21 = .ok (.ifCond .ne 6, 3) := by decide +kernel
theorem dX12_back_27 : decode cX12_back 27 = .ok (.iconst 0, 1) := by decide +kernel
theorem dX12_back_28 : decode cX12_back 28 = .ok (.istore_n 2, 1) := by decide +kernel
theorem dX12_back_29 : decode cX12_back 29 = .ok (.iload_n 2, 1) := by decide +kernel
theorem dX12_back_30 : decode cX12_back 30 = .ok (.sipush 2076, 3) := by decide +kernel
theorem dX12_back_33 : decode cX12_back 33 = .ok (.if_icmp .ge 27, 3) := by decide +kernel
theorem dX12_back_60 : decode cX12_back 60 = .ok (.iconst 0, 1) := by decide +kernel
theorem dX12_back_61 : decode cX12_back 61 = .ok (.ireturn, 1) := by decide +kernel
theorem dX12_back_36 : decode cX12_back 36 = .ok (.aload_n 0, 1) := by decide +kernel
theorem dX12_back_37 : decode cX12_back 37 = .ok (.getfield 13, 3) := by decide +kernel
theorem dX12_back_40 : decode cX12_back 40 = .ok (.iload_n 2, 1) := by decide +kernel
theorem dX12_back_41 : decode cX12_back 41 = .ok (.aload_n 0, 1) := by decide +kernel
theorem dX12_back_42 : decode cX12_back 42 = .ok (.getfield 17, 3) := by decide +kernel
theorem dX12_back_45 : decode cX12_back 45 = .ok (.sipush 2076, 3) := by decide +kernel
theorem dX12_back_48 : decode cX12_back 48 = .ok (.iload_n 1, 1) := by decide +kernel
theorem dX12_back_49 : decode cX12_back 49 = .ok (.imul, 1) := by decide +kernel
theorem dX12_back_50 : decode cX12_back 50 = .ok (.iload_n 2, 1) := by decide +kernel
theorem dX12_back_51 : decode cX12_back 51 = .ok (.iadd, 1) := by decide +kernel
theorem dX12_back_52 : decode cX12_back 52 = .ok (.iaload, 1) := by decide +kernel
theorem dX12_back_53 : decode cX12_back 53 = .ok (.iastore, 1) := by decide +kernel
theorem dX12_back_54 : decode cX12_back 54 = .ok (.iinc 2 1, 3) := by decide +kernel
theorem dX12_back_57 : decode cX12_back 57 = .ok (.goto (-28), 3) := by decide +kernel
theorem dX12_back_24 : decode cX12_back 24 = .ok (.bipush (-6), 2) := by decide +kernel
theorem dX12_back_26 : decode cX12_back 26 = .ok (.ireturn, 1) := by decide +kernel
theorem dX12_back_12 : decode cX12_back 12 = .ok (.bipush (-2), 2) := by decide +kernel
theorem dX12_back_14 : decode cX12_back 14 = .ok (.ireturn, 1) := by decide +kernel
theorem dX12_hand_0 : decode cX12_hand 0 = .ok (.aload_n 0, 1) := by decide +kernel
theorem dX12_hand_1 : decode cX12_hand 1 = .ok (.invokevirtual 181, 3) := by decide +kernel
theorem dX12_hand_4 : decode cX12_hand 4 = .ok (.aload_n 0, 1) := by decide +kernel
theorem dX12_hand_5 : decode cX12_hand 5 = .ok (.invokevirtual 156, 3) := by decide +kernel
theorem dX12_hand_8 : decode cX12_hand 8 = .ok (.aload_n 0, 1) := by decide +kernel
theorem dX12_hand_9 : decode cX12_hand 9 = .ok (.ldc 210, 2) := by decide +kernel
theorem dX12_hand_11 : decode cX12_hand 11 = .ok (.invokevirtual 166, 3) := by decide +kernel
theorem dX12_hand_14 : decode cX12_hand 14 = .ok (.aload_n 0, 1) := by decide +kernel
theorem dX12_hand_15 : decode cX12_hand 15 = .ok (.getfield 34, 3) := by decide +kernel
theorem dX12_hand_18 : decode cX12_hand 18 = .ok (.bipush 10, 2) := by decide +kernel
theorem dX12_hand_20 : decode cX12_hand 20 = .ok (.aload_n 0, 1) := by decide +kernel
theorem dX12_hand_21 : decode cX12_hand 21 = .ok (.ldc 212, 2) := by decide +kernel
theorem dX12_hand_23 : decode cX12_hand 23 = .ok (.iconst 0, 1) := by decide +kernel
theorem dX12_hand_24 : decode cX12_hand 24 = .ok (.bipush 100, 2) := by decide +kernel
theorem dX12_hand_26 : decode cX12_hand 26 = .ok (.invokevirtual 189, 3) := by decide +kernel
theorem dX12_hand_29 : decode cX12_hand 29 = .ok (.iastore, 1) := by decide +kernel
theorem dX12_hand_30 : decode cX12_hand 30 = .ok (.aload_n 0, 1) := by decide +kernel
theorem dX12_hand_31 : decode cX12_hand 31 = .ok (.getfield 34, 3) := by decide +kernel
theorem dX12_hand_34 : decode cX12_hand 34 = .ok (.bipush 11, 2) := by decide +kernel
theorem dX12_hand_36 : decode cX12_hand 36 = .ok (.aload_n 0, 1) := by decide +kernel
theorem dX12_hand_37 : decode cX12_hand 37 = .ok (.ldc 214, 2) := by decide +kernel
theorem dX12_hand_39 : decode cX12_hand 39 = .ok (.iconst 0, 1) := by decide +kernel
theorem dX12_hand_40 : decode cX12_hand 40 = .ok (.bipush 100, 2) := by decide +kernel
theorem dX12_hand_42 : decode cX12_hand 42 = .ok (.invokevirtual 189, 3) := by decide +kernel
theorem dX12_hand_45 : decode cX12_hand 45 = .ok (.iastore, 1) := by decide +kernel
theorem dX12_hand_46 : decode cX12_hand 46 = .ok (.aload_n 0, 1) := by decide +kernel
theorem dX12_hand_47 : decode cX12_hand 47 = .ok (.getfield 34, 3) := by decide +kernel
theorem dX12_hand_50 : decode cX12_hand 50 = .ok (.bipush 12, 2) := by decide +kernel
theorem dX12_hand_52 : decode cX12_hand 52 = .ok (.aload_n 0, 1) := by decide +kernel
theorem dX12_hand_53 : decode cX12_hand 53 = .ok (.ldc 216, 2) := by decide +kernel
theorem dX12_hand_55 : decode cX12_hand 55 = .ok (.iconst 0, 1) := by decide +kernel
theorem dX12_hand_56 : decode cX12_hand 56 = .ok (.bipush 100, 2) := by decide +kernel
theorem dX12_hand_58 : decode cX12_hand 58 = .ok (.invokevirtual 189, 3) := by decide +kernel
theorem dX12_hand_61 : decode cX12_hand 61 = .ok (.iastore, 1) := by decide +kernel
theorem dX12_hand_62 : decode cX12_hand 62 = .ok (.aload_n 0, 1) := by decide +kernel
theorem dX12_hand_63 : decode cX12_hand 63 = .ok (.invokevirtual 178, 3) := by decide +kernel
theorem dX12_hand_66 : decode cX12_hand 66 = .ok (.aload_n 0, 1) := by decide +kernel
theorem dX12_hand_67 : decode cX12_hand 67 = .ok (.invokevirtual 218, 3) := by decide +kernel
theorem dX12_hand_70 : decode cX12_hand 70 = .ok (.aload_n 0, 1) := by decide +kernel
theorem dX12_hand_71 : decode cX12_hand 71 = .ok (.invokevirtual 139, 3) := by decide +kernel
theorem dX12_hand_74 : decode cX12_hand 74 = .ok (.ifCond .ne 6, 3) := by decide +kernel
theorem dX12_hand_80 : decode cX12_hand 80 = .ok (.aload_n 0, 1) := by decide +kernel
theorem dX12_hand_81 : decode cX12_hand 81 = .ok (.bipush 10, 2) := by decide +kernel
theorem dX12_hand_83 : decode cX12_hand 83 = .ok (.bipush 13, 2) := by decide +kernel
theorem dX12_hand_85 : decode cX12_hand 85 = .ok (.invokevirtual 197, 3) := by decide +kernel
theorem dX12_hand_88 : decode cX12_hand 88 = .ok (.iconst 0, 1) := by decide +kernel
theorem dX12_hand_89 : decode cX12_hand 89 = .ok (.ireturn, 1) := by decide +kernel
theorem dX12_hand_77 : decode cX12_hand 77 = .ok (.bipush (-4), 2) := by decide +kernel
theorem dX12_hand_79 : decode cX12_hand 79 = .ok (.ireturn, 1) := by decide +kernel
theorem dX12_way_0 : decode cX12_way 0 = .ok (.iload_n 1, 1) := by decide +kernel
theorem dX12_way_1 : decode cX12_way 1 = .ok (.invokestatic 221, 3) := by decide +kernel
theorem dX12_way_4 : decode cX12_way 4 = .ok (.ifCond .ne 6, 3) := by decide +kernel
theorem dX12_way_10 : decode cX12_way 10 = .ok (.aload_n 0, 1) := by decide +kernel
theorem dX12_way_11 : decode cX12_way 11 = .ok (.invokevirtual 181, 3) := by decide +kernel
theorem dX12_way_14 : decode cX12_way 14 = .ok (.aload_n 0, 1) := by decide +kernel
theorem dX12_way_15 : decode cX12_way 15 = .ok (.invokevirtual 156, 3) := by decide +kernel
theorem dX12_way_18 : decode cX12_way 18 = .ok (.aload_n 0, 1) := by decide +kernel
theorem dX12_way_19 : decode cX12_way 19 = .ok (.ldc 224, 2) := by decide +kernel
theorem dX12_way_21 : decode cX12_way 21 = .ok (.invokevirtual 166, 3) := by decide +kernel
theorem dX12_way_24 : decode cX12_way 24 = .ok (.aload_n 0, 1) := by decide +kernel
theorem dX12_way_25 : decode cX12_way 25 = .ok (.ldc 226, 2) := by decide +kernel
theorem dX12_way_27 : decode cX12_way 27 = .ok (.invokevirtual 166, 3) := by decide +kernel
theorem dX12_way_30 : decode cX12_way 30 = .ok (.bipush 120, 2) := by decide +kernel
theorem dX12_way_32 : decode cX12_way 32 = .ok (.bipush 7, 2) := by decide +kernel
theorem dX12_way_34 : decode cX12_way 34 = .ok (.iload_n 1, 1) := by decide +kernel
theorem dX12_way_35 : decode cX12_way 35 = .ok (.imul, 1) := by decide +kernel
theorem dX12_way_36 : decode cX12_way 36 = .ok (.iadd, 1) := by decide +kernel
theorem dX12_way_37 : decode cX12_way 37 = .ok (.istore_n 2, 1) := by decide +kernel
theorem dX12_way_38 : decode cX12_way 38 = .ok (.aload_n 0, 1) := by decide +kernel
theorem dX12_way_39 : decode cX12_way 39 = .ok (.invokevirtual 228, 3) := by decide +kernel
theorem dX12_way_42 : decode cX12_way 42 = .ok (.istore_n 3, 1) := by decide +kernel
theorem dX12_way_43 : decode cX12_way 43 = .ok (.iload_n 3, 1) := by decide +kernel
theorem dX12_way_44 : decode cX12_way 44 = .ok (.iconst (-1), 1) := by decide +kernel
theorem dX12_way_53 : decode cX12_way 53 = .ok (.aload_n 0, 1) := by decide +kernel
theorem dX12_way_54 : decode cX12_way 54 = .ok (.invokevirtual 139, 3) := by decide +kernel
theorem dX12_way_64 : decode cX12_way 64 = .ok (.aload_n 0, 1) := by decide +kernel
theorem dX12_way_65 : decode cX12_way 65 = .ok (.getfield 34, 3) := by decide +kernel
theorem dX12_way_68 : decode cX12_way 68 = .ok (.iload_n 2, 1) := by decide +kernel
theorem dX12_way_69 : decode cX12_way 69 = .ok (.iconst 1, 1) := by decide +kernel
theorem dX12_way_70 : decode cX12_way 70 = .ok (.iastore, 1) := by decide +kernel
theorem dX12_way_71 : decode cX12_way 71 = .ok (.aload_n 0, 1) := by decide +kernel
theorem dX12_way_72 : decode cX12_way 72 = .ok (.getfield 34, 3) := by decide +kernel
theorem dX12_way_75 : decode cX12_way 75 = .ok (.iload_n 2, 1) := by decide +kernel
theorem dX12_way_76 : decode cX12_way 76 = .ok (.iconst 1, 1) := by decide +kernel
theorem dX12_way_77 : decode cX12_way 77 = .ok (.iadd, 1) := by decide +kernel
theorem dX12_way_78 : decode cX12_way 78 = .ok (.iload_n 3, 1) := by decide +kernel
theorem dX12_way_79 : decode cX12_way 79 = .ok (.iastore, 1) := by decide +kernel
theorem dX12_way_80 : decode cX12_way 80 = .ok (.aload_n 0, 1) := by decide +kernel
theorem dX12_way_81 : decode cX12_way 81 = .ok (.getfield 34, 3) := by decide +kernel
theorem dX12_way_84 : decode cX12_way 84 = .ok (.iload_n 2, 1) := by decide +kernel
theorem dX12_way_85 : decode cX12_way 85 = .ok (.iconst 2, 1) := by decide +kernel
theorem dX12_way_86 : decode cX12_way 86 = .ok (.iadd, 1) := by decide +kernel
theorem dX12_way_87 : decode cX12_way 87 = .ok (.aload_n 0, 1) := by decide +kernel
theorem dX12_way_88 : decode cX12_way 88 = .ok (.ldc 231, 2) := by decide +kernel
theorem dX12_way_90 : decode cX12_way 90 = .ok (.invokevirtual 159, 3) := by decide +kernel
theorem dX12_way_107 : decode cX12_way 107 = .ok (.iastore, 1) := by decide +kernel
theorem dX12_way_108 : decode cX12_way 108 = .ok (.aload_n 0, 1) := by decide +kernel
theorem dX12_way_109 : decode cX12_way 109 = .ok (.getfield 34, 3) := by decide +kernel
theorem dX12_way_112 : decode cX12_way 112 = .ok (.iload_n 2, 1) := by decide +kernel
theorem dX12_way_113 : decode cX12_way 113 = .ok (.iconst 3, 1) := by decide +kernel
theorem dX12_way_114 : decode cX12_way 114 = .ok (.iadd, 1) := by decide +kernel
theorem dX12_way_115 : decode cX12_way 115 = .ok (.aload_n 0, 1) := by decide +kernel
theorem dX12_way_116 : decode cX12_way 116 = .ok (.ldc 233, 2) := by decide +kernel
theorem dX12_way_118 : decode cX12_way 118 = .ok (.invokevirtual 159, 3) := by decide +kernel
theorem dX12_way_134 : decode cX12_way 134 = .ok (.iastore, 1) := by decide +kernel
theorem dX12_way_135 : decode cX12_way 135 = .ok (.aload_n 0, 1) := by decide +kernel
theorem dX12_way_136 : decode cX12_way 136 = .ok (.getfield 34, 3) := by decide +kernel
theorem dX12_way_139 : decode cX12_way 139 = .ok (.iload_n 2, 1) := by decide +kernel
theorem dX12_way_140 : decode cX12_way 140 = .ok (.iconst 4, 1) := by decide +kernel
theorem dX12_way_141 : decode cX12_way 141 = .ok (.iadd, 1) := by decide +kernel
theorem dX12_way_142 : decode cX12_way 142 = .ok (.iconst 1, 1) := by decide +kernel
theorem dX12_way_143 : decode cX12_way 143 = .ok (.iastore, 1) := by decide +kernel
theorem dX12_way_144 : decode cX12_way 144 = .ok (.aload_n 0, 1) := by decide +kernel
theorem dX12_way_145 : decode cX12_way 145 = .ok (.ldc 235, 2) := by decide +kernel
theorem dX12_way_147 : decode cX12_way 147 = .ok (.invokevirtual 159, 3) := by decide +kernel
theorem dX12_way_196 : decode cX12_way 196 = .ok (.aload_n 0, 1) := by decide +kernel
theorem dX12_way_197 : decode cX12_way 197 = .ok (.getfield 34, 3) := by decide +kernel
theorem dX12_way_200 : decode cX12_way 200 = .ok (.iload_n 2, 1) := by decide +kernel
theorem dX12_way_201 : decode cX12_way 201 = .ok (.iconst 5, 1) := by decide +kernel
theorem dX12_way_202 : decode cX12_way 202 = .ok (.iadd, 1) := by decide +kernel
theorem dX12_way_203 : decode cX12_way 203 = .ok (.aload_n 0, 1) := by decide +kernel
theorem dX12_way_204 : decode cX12_way 204 = .ok (.ldc 237, 2) := by decide +kernel
theorem dX12_way_206 : decode cX12_way 206 = .ok (.invokevirtual 159, 3) := by decide +kernel
theorem dX12_way_217 : decode cX12_way 217 = .ok (.iastore, 1) := by decide +kernel
theorem dX12_way_218 : decode cX12_way 218 = .ok (.aload_n 0, 1) := by decide +kernel
theorem dX12_way_219 : decode cX12_way 219 = .ok (.getfield 34, 3) := by decide +kernel
theorem dX12_way_222 : decode cX12_way 222 = .ok (.iload_n 2, 1) := by decide +kernel
theorem dX12_way_223 : decode cX12_way 223 = .ok (.bipush 6, 2) := by decide +kernel
theorem dX12_way_225 : decode cX12_way 225 = .ok (.iadd, 1) := by decide +kernel
theorem dX12_way_226 : decode cX12_way 226 = .ok (.aload_n 0, 1) := by decide +kernel
theorem dX12_way_227 : decode cX12_way 227 = .ok (.ldc 239, 2) := by decide +kernel
theorem dX12_way_229 : decode cX12_way 229 = .ok (.invokevirtual 159, 3) := by decide +kernel
theorem dX12_way_240 : decode cX12_way 240 = .ok (.iastore, 1) := by decide +kernel
theorem dX12_way_241 : decode cX12_way 241 = .ok (.aload_n 0, 1) := by decide +kernel
theorem dX12_way_242 : decode cX12_way 242 = .ok (.invokevirtual 178, 3) := by decide +kernel
theorem dX12_way_245 : decode cX12_way 245 = .ok (.aload_n 0, 1) := by decide +kernel
theorem dX12_way_246 : decode cX12_way 246 = .ok (.invokevirtual 218, 3) := by decide +kernel
theorem dX12_way_249 : decode cX12_way 249 = .ok (.aload_n 0, 1) := by decide +kernel
theorem dX12_way_250 : decode cX12_way 250 = .ok (.invokevirtual 139, 3) := by decide +kernel
theorem dX12_way_253 : decode cX12_way 253 = .ok (.ifCond .ne 6, 3) := by decide +kernel
theorem dX12_way_259 : decode cX12_way 259 = .ok (.aload_n 0, 1) := by decide +kernel
theorem dX12_way_260 : decode cX12_way 260 = .ok (.iload_n 2, 1) := by decide +kernel
theorem dX12_way_261 : decode cX12_way 261 = .ok (.iload_n 2, 1) := by decide +kernel
theorem dX12_way_262 : decode cX12_way 262 = .ok (.bipush 7, 2) := by decide +kernel
theorem dX12_way_264 : decode cX12_way 264 = .ok (.iadd, 1) := by decide +kernel
theorem dX12_way_265 : decode cX12_way 265 = .ok (.invokevirtual 197, 3) := by decide +kernel
theorem dX12_way_268 : decode cX12_way 268 = .ok (.aload_n 0, 1) := by decide +kernel
theorem dX12_way_269 : decode cX12_way 269 = .ok (.iload_n 1, 1) := by decide +kernel
theorem dX12_way_270 : decode cX12_way 270 = .ok (.invokevirtual 241, 3) := by decide +kernel
theorem dX12_way_273 : decode cX12_way 273 = .ok (.ireturn, 1) := by decide +kernel
theorem dX12_way_256 : decode cX12_way 256 = .ok (.bipush (-4), 2) := by decide +kernel
theorem dX12_way_258 : decode cX12_way 258 = .ok (.ireturn, 1) := by decide +kernel
theorem dX12_way_232 : decode cX12_way 232 = .ok (.ifCond .eq 7, 3) := by decide +kernel
theorem dX12_way_239 : decode cX12_way 239 = .ok (.iconst 0, 1) := by decide +kernel
theorem dX12_way_235 : decode cX12_way 235 = .ok (.iconst 1, 1) := by decide +kernel
theorem dX12_way_236 : decode cX12_way 236 = .ok (.goto 4, 3) := by decide +kernel
theorem dX12_way_209 : decode cX12_way 209 = .ok (.ifCond .eq 7, 3) := by decide +kernel
theorem dX12_way_216 : decode cX12_way 216 = .ok (.iconst 0, 1) := by decide +kernel
theorem dX12_way_212 : decode cX12_way 212 = .ok (.iconst 1, 1) := by decide +kernel
theorem dX12_way_213 : decode cX12_way 213 = .ok (.goto 4, 3) := by decide +kernel
theorem dX12_way_150 : decode cX12_way 150 = .ok (.ifCond .eq 46, 3) := by decide +kernel
theorem dX12_way_153 : decode cX12_way 153 = .ok (.aload_n 0, 1) := by decide +kernel
theorem dX12_way_154 : decode cX12_way 154 = .ok (.invokevirtual 139, 3) := by decide +kernel
theorem dX12_way_157 : decode cX12_way 157 = .ok (.ifCond .eq 25, 3) := by decide +kernel
theorem dX12_way_182 : decode cX12_way 182 = .ok (.aload_n 0, 1) := by decide +kernel
theorem dX12_way_183 : decode cX12_way 183 = .ok (.getfield 34, 3) := by decide +kernel
theorem dX12_way_186 : decode cX12_way 186 = .ok (.iload_n 2, 1) := by decide +kernel
theorem dX12_way_187 : decode cX12_way 187 = .ok (.iconst 4, 1) := by decide +kernel
theorem dX12_way_188 : decode cX12_way 188 = .ok (.iadd, 1) := by decide +kernel
theorem dX12_way_189 : decode cX12_way 189 = .ok (.aload_n 0, 1) := by decide +kernel
theorem dX12_way_190 : decode cX12_way 190 = .ok (.iconst 1, 1) := by decide +kernel
theorem dX12_way_191 : decode cX12_way 191 = .ok (.iconst 5, 1) := by decide +kernel
theorem dX12_way_192 : decode cX12_way 192 = .ok (.invokevirtual 170, 3) := by decide +kernel
theorem dX12_way_195 : decode cX12_way 195 = .ok (.iastore, 1) := by decide +kernel
theorem dX12_way_160 : decode cX12_way 160 = .ok (.aload_n 0, 1) := by decide +kernel
theorem dX12_way_161 : decode cX12_way 161 = .ok (.getfield 120, 3) := by decide +kernel
theorem dX12_way_164 : decode cX12_way 164 = .ok (.iconst 2, 1) := by decide +kernel
theorem dX12_way_165 : decode cX12_way 165 = .ok (.if_icmp .ne 17, 3) := by decide +kernel
theorem dX12_way_168 : decode cX12_way 168 = .ok (.aload_n 0, 1) := by decide +kernel
theorem dX12_way_169 : decode cX12_way 169 = .ok (.getfield 131, 3) := by decide +kernel
theorem dX12_way_172 : decode cX12_way 172 = .ok (.iconst 2, 1) := by decide +kernel
theorem dX12_way_173 : decode cX12_way 173 = .ok (.irem, 1) := by decide +kernel
theorem dX12_way_174 : decode cX12_way 174 = .ok (.ifCond .ne 8, 3) := by decide +kernel
theorem dX12_way_177 : decode cX12_way 177 = .ok (.aload_n 0, 1) := by decide +kernel
theorem dX12_way_178 : decode cX12_way 178 = .ok (.iconst 2, 1) := by decide +kernel
theorem dX12_way_179 : decode cX12_way 179 = .ok (.invokevirtual 162, 3) := by decide +kernel
theorem dX12_way_121 : decode cX12_way 121 = .ok (.ifCond .eq 12, 3) := by decide +kernel
theorem dX12_way_133 : decode cX12_way 133 = .ok (.iconst 1, 1) := by decide +kernel
theorem dX12_way_124 : decode cX12_way 124 = .ok (.aload_n 0, 1) := by decide +kernel
theorem dX12_way_125 : decode cX12_way 125 = .ok (.iconst 1, 1) := by decide +kernel
theorem dX12_way_126 : decode cX12_way 126 = .ok (.iconst 5, 1) := by decide +kernel
theorem dX12_way_127 : decode cX12_way 127 = .ok (.invokevirtual 170, 3) := by decide +kernel
theorem dX12_way_130 : decode cX12_way 130 = .ok (.goto 4, 3) := by decide +kernel
theorem dX12_way_93 : decode cX12_way 93 = .ok (.ifCond .eq 13, 3) := by decide +kernel
theorem dX12_way_106 : decode cX12_way 106 = .ok (.iconst 1, 1) := by decide +kernel
theorem dX12_way_96 : decode cX12_way 96 = .ok (.aload_n 0, 1) := by decide +kernel
theorem dX12_way_97 : decode cX12_way 97 = .ok (.iconst 1, 1) := by decide +kernel
theorem dX12_way_98 : decode cX12_way 98 = .ok (.bipush 9, 2) := by decide +kernel
theorem dX12_way_100 : decode cX12_way 100 = .ok (.invokevirtual 170, 3) := by decide +kernel
theorem dX12_way_103 : decode cX12_way 103 = .ok (.goto 4, 3) := by decide +kernel
theorem dX12_way_57 : decode cX12_way 57 = .ok (.ifCond .eq 7, 3) := by decide +kernel
theorem dX12_way_60 : decode cX12_way 60 = .ok (.aload_n 0, 1) := by decide +kernel
theorem dX12_way_61 : decode cX12_way 61 = .ok (.invokevirtual 156, 3) := by decide +kernel
theorem dX12_way_45 : decode cX12_way 45 = .ok (.if_icmp .ne 8, 3) := by decide +kernel
theorem dX12_way_48 : decode cX12_way 48 = .ok (.aload_n 0, 1) := by decide +kernel
theorem dX12_way_49 : decode cX12_way 49 = .ok (.iconst 1, 1) := by decide +kernel
theorem dX12_way_50 : decode cX12_way 50 = .ok (.invokevirtual 162, 3) := by decide +kernel
theorem dX12_way_7 : decode cX12_way 7 = .ok (.bipush (-2), 2) := by decide +kernel
theorem dX12_way_9 : decode cX12_way 9 = .ok (.ireturn, 1) := by decide +kernel
theorem dX12_readRow_0 : decode cX12_readRow 0 = .ok (.aload_n 0, 1) := by decide +kernel
theorem dX12_readRow_1 : decode cX12_readRow 1 = .ok (.ldc 173, 2) := by decide +kernel
theorem dX12_readRow_3 : decode cX12_readRow 3 = .ok (.invokevirtual 152, 3) := by decide +kernel
theorem dX12_readRow_6 : decode cX12_readRow 6 = .ok (.ifCond .eq 19, 3) := by decide +kernel
theorem dX12_readRow_25 : decode cX12_readRow 25 = .ok (.aload_n 0, 1) := by decide +kernel
theorem dX12_readRow_26 : decode cX12_readRow 26 = .ok (.ldc 173, 2) := by decide +kernel
theorem dX12_readRow_28 : decode cX12_readRow 28 = .ok (.invokevirtual 166, 3) := by decide +kernel
theorem dX12_readRow_31 : decode cX12_readRow 31 = .ok (.aload_n 0, 1) := by decide +kernel
theorem dX12_readRow_32 : decode cX12_readRow 32 = .ok (.getfield 108, 3) := by decide +kernel
theorem dX12_readRow_35 : decode cX12_readRow 35 = .ok (.aload_n 0, 1) := by decide +kernel
theorem dX12_readRow_36 : decode cX12_readRow 36 = .ok (.getfield 117, 3) := by decide +kernel
theorem dX12_readRow_39 : decode cX12_readRow 39 = .ok (.isub, 1) := by decide +kernel
theorem dX12_readRow_40 : decode cX12_readRow 40 = .ok (.istore_n 1, 1) := by decide +kernel
theorem dX12_readRow_41 : decode cX12_readRow 41 = .ok (.aload_n 0, 1) := by decide +kernel
theorem dX12_readRow_42 : decode cX12_readRow 42 = .ok (.getfield 120, 3) := by decide +kernel
theorem dX12_readRow_45 : decode cX12_readRow 45 = .ok (.iconst 1, 1) := by decide +kernel
theorem dX12_readRow_60 : decode cX12_readRow 60 = .ok (.istore_n 2, 1) := by decide +kernel
theorem dX12_readRow_61 : decode cX12_readRow 61 = .ok (.bipush 16, 2) := by decide +kernel
theorem dX12_readRow_63 : decode cX12_readRow 63 = .ok (.bipush 13, 2) := by decide +kernel
theorem dX12_readRow_65 : decode cX12_readRow 65 = .ok (.aload_n 0, 1) := by decide +kernel
theorem dX12_readRow_66 : decode cX12_readRow 66 = .ok (.getfield 34, 3) := by decide +kernel
theorem dX12_readRow_69 : decode cX12_readRow 69 = .ok (.iconst 2, 1) := by decide +kernel
theorem dX12_readRow_70 : decode cX12_readRow 70 = .ok (.iaload, 1) := by decide +kernel
theorem dX12_readRow_71 : decode cX12_readRow 71 = .ok (.imul, 1) := by decide +kernel
theorem dX12_readRow_72 : decode cX12_readRow 72 = .ok (.iadd, 1) := by decide +kernel
theorem dX12_readRow_73 : decode cX12_readRow 73 = .ok (.istore_n 3, 1) := by decide +kernel
theorem dX12_readRow_74 : decode cX12_readRow 74 = .ok (.iconst 0, 1) := by decide +kernel
theorem dX12_readRow_75 : decode cX12_readRow 75 = .ok (.istore 4, 2) := by decide +kernel
theorem dX12_readRow_77 : decode cX12_readRow 77 = .ok (.iload 4, 2) := by decide +kernel
theorem dX12_readRow_79 : decode cX12_readRow 79 = .ok (.iload_n 1, 1) := by decide +kernel
theorem dX12_readRow_151 : decode cX12_readRow 151 = .ok (.iload_n 2, 1) := by decide +kernel
theorem dX12_readRow_152 : decode cX12_readRow 152 = .ok (.ifCond .ne 8, 3) := by decide +kernel
theorem dX12_readRow_160 : decode cX12_readRow 160 = .ok (.aload_n 0, 1) := by decide +kernel
theorem dX12_readRow_161 : decode cX12_readRow 161 = .ok (.invokevirtual 139, 3) := by decide +kernel
theorem dX12_readRow_164 : decode cX12_readRow 164 = .ok (.ifCond .ne 4, 3) := by decide +kernel
theorem dX12_readRow_168 : decode cX12_readRow 168 = .ok (.aload_n 0, 1) := by decide +kernel
theorem dX12_readRow_169 : decode cX12_readRow 169 = .ok (.getfield 34, 3) := by decide +kernel
theorem dX12_readRow_172 : decode cX12_readRow 172 = .ok (.iload_n 3, 1) := by decide +kernel
theorem dX12_readRow_173 : decode cX12_readRow 173 = .ok (.iload_n 1, 1) := by decide +kernel
theorem dX12_readRow_174 : decode cX12_readRow 174 = .ok (.iastore, 1) := by decide +kernel
theorem dX12_readRow_175 : decode cX12_readRow 175 = .ok (.aload_n 0, 1) := by decide +kernel
theorem dX12_readRow_176 : decode cX12_readRow 176 = .ok (.getfield 34, 3) := by decide +kernel
theorem dX12_readRow_179 : decode cX12_readRow 179 = .ok (.iconst 2, 1) := by decide +kernel
theorem dX12_readRow_180 : decode cX12_readRow 180 = .ok (.dup2, 1) := by decide +kernel
theorem dX12_readRow_181 : decode cX12_readRow 181 = .ok (.iaload, 1) := by decide +kernel
theorem dX12_readRow_182 : decode cX12_readRow 182 = .ok (.iconst 1, 1) := by decide +kernel
theorem dX12_readRow_183 : decode cX12_readRow 183 = .ok (.iadd, 1) := by decide +kernel
theorem dX12_readRow_184 : decode cX12_readRow 184 = .ok (.iastore, 1) := by decide +kernel
theorem dX12_readRow_185 : decode cX12_readRow 185 = .ok (.aload_n 0, 1) := by decide +kernel
theorem dX12_readRow_186 : decode cX12_readRow 186 = .ok (.invokevirtual 156, 3) := by decide +kernel
theorem dX12_readRow_189 : decode cX12_readRow 189 = .ok (.aload_n 0, 1) := by decide +kernel
theorem dX12_readRow_190 : decode cX12_readRow 190 = .ok (.invokevirtual 178, 3) := by decide +kernel
theorem dX12_readRow_193 : decode cX12_readRow 193 = .ok (.return_, 1) := by decide +kernel
theorem dX12_readRow_167 : decode cX12_readRow 167 = .ok (.return_, 1) := by decide +kernel
theorem dX12_readRow_155 : decode cX12_readRow 155 = .ok (.aload_n 0, 1) := by decide +kernel
theorem dX12_readRow_156 : decode cX12_readRow 156 = .ok (.iconst 1, 1) := by decide +kernel
theorem dX12_readRow_157 : decode cX12_readRow 157 = .ok (.invokevirtual 162, 3) := by decide +kernel
theorem dX12_readRow_80 : decode cX12_readRow 80 = .ok (.if_icmp .ge 71, 3) := by decide +kernel
theorem dX12_readRow_83 : decode cX12_readRow 83 = .ok (.iload_n 2, 1) := by decide +kernel
theorem dX12_readRow_84 : decode cX12_readRow 84 = .ok (.ifCond .eq 67, 3) := by decide +kernel
theorem dX12_readRow_87 : decode cX12_readRow 87 = .ok (.aload_n 0, 1) := by decide +kernel
theorem dX12_readRow_88 : decode cX12_readRow 88 = .ok (.invokevirtual 139, 3) := by decide +kernel
theorem dX12_readRow_91 : decode cX12_readRow 91 = .ok (.ifCond .eq 60, 3) := by decide +kernel
theorem dX12_readRow_94 : decode cX12_readRow 94 = .ok (.aload_n 0, 1) := by decide +kernel
theorem dX12_readRow_95 : decode cX12_readRow 95 = .ok (.getfield 24, 3) := by decide +kernel
theorem dX12_readRow_98 : decode cX12_readRow 98 = .ok (.aload_n 0, 1) := by decide +kernel
theorem dX12_readRow_99 : decode cX12_readRow 99 = .ok (.getfield 117, 3) := by decide +kernel
theorem dX12_readRow_102 : decode cX12_readRow 102 = .ok (.iload 4, 2) := by decide +kernel
theorem dX12_readRow_104 : decode cX12_readRow 104 = .ok (.iadd, 1) := by decide +kernel
theorem dX12_readRow_105 : decode cX12_readRow 105 = .ok (.baload, 1) := by decide +kernel
theorem dX12_readRow_106 : decode cX12_readRow 106 = .ok (.invokestatic 175, 3) := by decide +kernel
theorem dX12_readRow_109 : decode cX12_readRow 109 = .ok (.iconst (-1), 1) := by decide +kernel
theorem dX12_readRow_110 : decode cX12_readRow 110 = .ok (.if_icmp .eq 7, 3) := by decide +kernel
theorem dX12_readRow_117 : decode cX12_readRow 117 = .ok (.iconst 0, 1) := by decide +kernel
theorem dX12_readRow_118 : decode cX12_readRow 118 = .ok (.istore_n 2, 1) := by decide +kernel
theorem dX12_readRow_119 : decode cX12_readRow 119 = .ok (.aload_n 0, 1) := by decide +kernel
theorem dX12_readRow_120 : decode cX12_readRow 120 = .ok (.getfield 34, 3) := by decide +kernel
theorem dX12_readRow_123 : decode cX12_readRow 123 = .ok (.iload_n 3, 1) := by decide +kernel
theorem dX12_readRow_124 : decode cX12_readRow 124 = .ok (.iconst 1, 1) := by decide +kernel
theorem dX12_readRow_125 : decode cX12_readRow 125 = .ok (.iadd, 1) := by decide +kernel
theorem dX12_readRow_126 : decode cX12_readRow 126 = .ok (.iload 4, 2) := by decide +kernel
theorem dX12_readRow_128 : decode cX12_readRow 128 = .ok (.iadd, 1) := by decide +kernel
theorem dX12_readRow_129 : decode cX12_readRow 129 = .ok (.aload_n 0, 1) := by decide +kernel
theorem dX12_readRow_130 : decode cX12_readRow 130 = .ok (.getfield 24, 3) := by decide +kernel
theorem dX12_readRow_133 : decode cX12_readRow 133 = .ok (.aload_n 0, 1) := by decide +kernel
theorem dX12_readRow_134 : decode cX12_readRow 134 = .ok (.getfield 117, 3) := by decide +kernel
theorem dX12_readRow_137 : decode cX12_readRow 137 = .ok (.iload 4, 2) := by decide +kernel
theorem dX12_readRow_139 : decode cX12_readRow 139 = .ok (.iadd, 1) := by decide +kernel
theorem dX12_readRow_140 : decode cX12_readRow 140 = .ok (.baload, 1) := by decide +kernel
theorem dX12_readRow_141 : decode cX12_readRow 141 = .ok (.invokestatic 175, 3) := by decide +kernel
theorem dX12_readRow_144 : decode cX12_readRow 144 = .ok (.iastore, 1) := by decide +kernel
theorem dX12_readRow_145 : decode cX12_readRow 145 = .ok (.iinc 4 1, 3) := by decide +kernel
theorem dX12_readRow_148 : decode cX12_readRow 148 = .ok (.goto (-71), 3) := by decide +kernel
theorem dX12_readRow_113 : decode cX12_readRow 113 = .ok (.iconst 1, 1) := by decide +kernel
theorem dX12_readRow_114 : decode cX12_readRow 114 = .ok (.goto 4, 3) := by decide +kernel
theorem dX12_readRow_46 : decode cX12_readRow 46 = .ok (.if_icmp .ne 13, 3) := by decide +kernel
theorem dX12_readRow_59 : decode cX12_readRow 59 = .ok (.iconst 0, 1) := by decide +kernel
theorem dX12_readRow_49 : decode cX12_readRow 49 = .ok (.iload_n 1, 1) := by decide +kernel
theorem dX12_readRow_50 : decode cX12_readRow 50 = .ok (.bipush 12, 2) := by decide +kernel
theorem dX12_readRow_52 : decode cX12_readRow 52 = .ok (.if_icmp .gt 7, 3) := by decide +kernel
theorem dX12_readRow_55 : decode cX12_readRow 55 = .ok (.iconst 1, 1) := by decide +kernel
theorem dX12_readRow_56 : decode cX12_readRow 56 = .ok (.goto 4, 3) := by decide +kernel
theorem dX12_readRow_9 : decode cX12_readRow 9 = .ok (.aload_n 0, 1) := by decide +kernel
theorem dX12_readRow_10 : decode cX12_readRow 10 = .ok (.getfield 34, 3) := by decide +kernel
theorem dX12_readRow_13 : decode cX12_readRow 13 = .ok (.iconst 2, 1) := by decide +kernel
theorem dX12_readRow_14 : decode cX12_readRow 14 = .ok (.iaload, 1) := by decide +kernel
theorem dX12_readRow_15 : decode cX12_readRow 15 = .ok (.bipush 8, 2) := by decide +kernel
theorem dX12_readRow_17 : decode cX12_readRow 17 = .ok (.if_icmp .ne 8, 3) := by decide +kernel
theorem dX12_readRow_20 : decode cX12_readRow 20 = .ok (.aload_n 0, 1) := by decide +kernel
theorem dX12_readRow_21 : decode cX12_readRow 21 = .ok (.iconst 3, 1) := by decide +kernel
theorem dX12_readRow_22 : decode cX12_readRow 22 = .ok (.invokevirtual 162, 3) := by decide +kernel
theorem dX12_isFree_0 : decode cX12_isFree 0 = .ok (.aload_n 0, 1) := by decide +kernel
theorem dX12_isFree_1 : decode cX12_isFree 1 = .ok (.iload_n 1, 1) := by decide +kernel
theorem dX12_isFree_2 : decode cX12_isFree 2 = .ok (.invokevirtual 98, 3) := by decide +kernel
theorem dX12_isFree_5 : decode cX12_isFree 5 = .ok (.iconst 1, 1) := by decide +kernel
theorem dX12_isFree_6 : decode cX12_isFree 6 = .ok (.if_icmp .le 7, 3) := by decide +kernel
theorem dX12_isFree_13 : decode cX12_isFree 13 = .ok (.iconst 0, 1) := by decide +kernel
theorem dX12_isFree_14 : decode cX12_isFree 14 = .ok (.ireturn, 1) := by decide +kernel
theorem dX12_isFree_9 : decode cX12_isFree 9 = .ok (.iconst 1, 1) := by decide +kernel
theorem dX12_isFree_10 : decode cX12_isFree 10 = .ok (.goto 4, 3) := by decide +kernel
theorem dX12_frees_0 : decode cX12_frees 0 = .ok (.iconst 0, 1) := by decide +kernel
theorem dX12_frees_1 : decode cX12_frees 1 = .ok (.istore_n 1, 1) := by decide +kernel
theorem dX12_frees_2 : decode cX12_frees 2 = .ok (.iconst 0, 1) := by decide +kernel
theorem dX12_frees_3 : decode cX12_frees 3 = .ok (.istore_n 2, 1) := by decide +kernel
theorem dX12_frees_4 : decode cX12_frees 4 = .ok (.iload_n 2, 1) := by decide +kernel
theorem dX12_frees_5 : decode cX12_frees 5 = .ok (.aload_n 0, 1) := by decide +kernel
theorem dX12_frees_6 : decode cX12_frees 6 = .ok (.invokevirtual 203, 3) := by decide +kernel
theorem dX12_frees_9 : decode cX12_frees 9 = .ok (.if_icmp .ge 25, 3) := by decide +kernel
theorem dX12_frees_34 : decode cX12_frees 34 = .ok (.iload_n 1, 1) := by decide +kernel
theorem dX12_frees_35 : decode cX12_frees 35 = .ok (.ireturn, 1) := by decide +kernel
theorem dX12_frees_12 : decode cX12_frees 12 = .ok (.iload_n 1, 1) := by decide +kernel
theorem dX12_frees_13 : decode cX12_frees 13 = .ok (.aload_n 0, 1) := by decide +kernel
theorem dX12_frees_14 : decode cX12_frees 14 = .ok (.iload_n 2, 1) := by decide +kernel
theorem dX12_frees_15 : decode cX12_frees 15 = .ok (.invokevirtual 206, 3) := by decide +kernel
theorem dX12_frees_18 : decode cX12_frees 18 = .ok (.ifCond .eq 7, 3) := by decide +kernel
theorem dX12_frees_25 : decode cX12_frees 25 = .ok (.iconst 0, 1) := by decide +kernel
theorem dX12_frees_26 : decode cX12_frees 26 = .ok (.iadd, 1) := by decide +kernel
theorem dX12_frees_27 : decode cX12_frees 27 = .ok (.istore_n 1, 1) := by decide +kernel
theorem dX12_frees_28 : decode cX12_frees 28 = .ok (.iinc 2 1, 3) := by decide +kernel
theorem dX12_frees_31 : decode cX12_frees 31 = .ok (.goto (-27), 3) := by decide +kernel
theorem dX12_frees_21 : decode cX12_frees 21 = .ok (.iconst 1, 1) := by decide +kernel
theorem dX12_frees_22 : decode cX12_frees 22 = .ok (.goto 4, 3) := by decide +kernel
theorem dX12_pattern_0 : decode cX12_pattern 0 = .ok (.aload_n 0, 1) := by decide +kernel
theorem dX12_pattern_1 : decode cX12_pattern 1 = .ok (.invokevirtual 181, 3) := by decide +kernel
theorem dX12_pattern_4 : decode cX12_pattern 4 = .ok (.aload_n 0, 1) := by decide +kernel
theorem dX12_pattern_5 : decode cX12_pattern 5 = .ok (.iconst 0, 1) := by decide +kernel
theorem dX12_pattern_6 : decode cX12_pattern 6 = .ok (.bipush 120, 2) := by decide +kernel
theorem dX12_pattern_8 : decode cX12_pattern 8 = .ok (.invokevirtual 184, 3) := by decide +kernel
theorem dX12_pattern_11 : decode cX12_pattern 11 = .ok (.aload_n 0, 1) := by decide +kernel
theorem dX12_pattern_12 : decode cX12_pattern 12 = .ok (.invokevirtual 156, 3) := by decide +kernel
theorem dX12_pattern_15 : decode cX12_pattern 15 = .ok (.aload_n 0, 1) := by decide +kernel
theorem dX12_pattern_16 : decode cX12_pattern 16 = .ok (.getfield 34, 3) := by decide +kernel
theorem dX12_pattern_19 : decode cX12_pattern 19 = .ok (.iconst 1, 1) := by decide +kernel
theorem dX12_pattern_20 : decode cX12_pattern 20 = .ok (.aload_n 0, 1) := by decide +kernel
theorem dX12_pattern_21 : decode cX12_pattern 21 = .ok (.ldc 188, 2) := by decide +kernel
theorem dX12_pattern_23 : decode cX12_pattern 23 = .ok (.iconst 1, 1) := by decide +kernel
theorem dX12_pattern_24 : decode cX12_pattern 24 = .ok (.bipush 16, 2) := by decide +kernel
theorem dX12_pattern_26 : decode cX12_pattern 26 = .ok (.invokevirtual 189, 3) := by decide +kernel
theorem dX12_pattern_29 : decode cX12_pattern 29 = .ok (.iastore, 1) := by decide +kernel
theorem dX12_pattern_30 : decode cX12_pattern 30 = .ok (.aload_n 0, 1) := by decide +kernel
theorem dX12_pattern_31 : decode cX12_pattern 31 = .ok (.getfield 34, 3) := by decide +kernel
theorem dX12_pattern_34 : decode cX12_pattern 34 = .ok (.iconst 0, 1) := by decide +kernel
theorem dX12_pattern_35 : decode cX12_pattern 35 = .ok (.aload_n 0, 1) := by decide +kernel
theorem dX12_pattern_36 : decode cX12_pattern 36 = .ok (.ldc 193, 2) := by decide +kernel
theorem dX12_pattern_38 : decode cX12_pattern 38 = .ok (.iconst 1, 1) := by decide +kernel
theorem dX12_pattern_39 : decode cX12_pattern 39 = .ok (.bipush 16, 2) := by decide +kernel
theorem dX12_pattern_41 : decode cX12_pattern 41 = .ok (.invokevirtual 189, 3) := by decide +kernel
theorem dX12_pattern_44 : decode cX12_pattern 44 = .ok (.iastore, 1) := by decide +kernel
theorem dX12_pattern_45 : decode cX12_pattern 45 = .ok (.aload_n 0, 1) := by decide +kernel
theorem dX12_pattern_46 : decode cX12_pattern 46 = .ok (.invokevirtual 178, 3) := by decide +kernel
theorem dX12_pattern_49 : decode cX12_pattern 49 = .ok (.aload_n 0, 1) := by decide +kernel
theorem dX12_pattern_50 : decode cX12_pattern 50 = .ok (.invokevirtual 194, 3) := by decide +kernel
theorem dX12_pattern_53 : decode cX12_pattern 53 = .ok (.aload_n 0, 1) := by decide +kernel
theorem dX12_pattern_54 : decode cX12_pattern 54 = .ok (.invokevirtual 139, 3) := by decide +kernel
theorem dX12_pattern_57 : decode cX12_pattern 57 = .ok (.ifCond .eq 10, 3) := by decide +kernel
theorem dX12_pattern_67 : decode cX12_pattern 67 = .ok (.aload_n 0, 1) := by decide +kernel
theorem dX12_pattern_68 : decode cX12_pattern 68 = .ok (.invokevirtual 139, 3) := by decide +kernel
theorem dX12_pattern_71 : decode cX12_pattern 71 = .ok (.ifCond .ne 6, 3) := by decide +kernel
theorem dX12_pattern_77 : decode cX12_pattern 77 = .ok (.iconst 0, 1) := by decide +kernel
theorem dX12_pattern_78 : decode cX12_pattern 78 = .ok (.istore_n 1, 1) := by decide +kernel
theorem dX12_pattern_79 : decode cX12_pattern 79 = .ok (.iload_n 1, 1) := by decide +kernel
theorem dX12_pattern_80 : decode cX12_pattern 80 = .ok (.iconst 3, 1) := by decide +kernel
theorem dX12_pattern_81 : decode cX12_pattern 81 = .ok (.if_icmp .ge 21, 3) := by decide +kernel
theorem dX12_pattern_84 : decode cX12_pattern 84 = .ok (.aload_n 0, 1) := by decide +kernel
theorem dX12_pattern_85 : decode cX12_pattern 85 = .ok (.getfield 13, 3) := by decide +kernel
theorem dX12_pattern_88 : decode cX12_pattern 88 = .ok (.iload_n 1, 1) := by decide +kernel
theorem dX12_pattern_89 : decode cX12_pattern 89 = .ok (.aload_n 0, 1) := by decide +kernel
theorem dX12_pattern_90 : decode cX12_pattern 90 = .ok (.getfield 34, 3) := by decide +kernel
theorem dX12_pattern_93 : decode cX12_pattern 93 = .ok (.iload_n 1, 1) := by decide +kernel
theorem dX12_pattern_94 : decode cX12_pattern 94 = .ok (.iaload, 1) := by decide +kernel
theorem dX12_pattern_95 : decode cX12_pattern 95 = .ok (.iastore, 1) := by decide +kernel
theorem dX12_pattern_96 : decode cX12_pattern 96 = .ok (.iinc 1 1, 3) := by decide +kernel
theorem dX12_pattern_99 : decode cX12_pattern 99 = .ok (.goto (-20), 3) := by decide +kernel
theorem dX12_pattern_102 : decode cX12_pattern 102 = .ok (.aload_n 0, 1) := by decide +kernel
theorem dX12_pattern_103 : decode cX12_pattern 103 = .ok (.bipush 16, 2) := by decide +kernel
theorem dX12_pattern_105 : decode cX12_pattern 105 = .ok (.bipush 120, 2) := by decide +kernel
theorem dX12_pattern_107 : decode cX12_pattern 107 = .ok (.invokevirtual 197, 3) := by decide +kernel
theorem dX12_pattern_110 : decode cX12_pattern 110 = .ok (.iconst 0, 1) := by decide +kernel
theorem dX12_pattern_111 : decode cX12_pattern 111 = .ok (.istore_n 1, 1) := by decide +kernel
theorem dX12_pattern_112 : decode cX12_pattern 112 = .ok (.iload_n 1, 1) := by decide +kernel
theorem dX12_pattern_113 : decode cX12_pattern 113 = .ok (.iconst 4, 1) := by decide +kernel
theorem dX12_pattern_114 : decode cX12_pattern 114 = .ok (.if_icmp .ge 24, 3) := by decide +kernel
theorem dX12_pattern_117 : decode cX12_pattern 117 = .ok (.aload_n 0, 1) := by decide +kernel
theorem dX12_pattern_118 : decode cX12_pattern 118 = .ok (.getfield 13, 3) := by decide +kernel
theorem dX12_pattern_121 : decode cX12_pattern 121 = .ok (.sipush 1048, 3) := by decide +kernel
theorem dX12_pattern_124 : decode cX12_pattern 124 = .ok (.sipush 257, 3) := by decide +kernel
theorem dX12_pattern_127 : decode cX12_pattern 127 = .ok (.iload_n 1, 1) := by decide +kernel
theorem dX12_pattern_128 : decode cX12_pattern 128 = .ok (.imul, 1) := by decide +kernel
theorem dX12_pattern_129 : decode cX12_pattern 129 = .ok (.iadd, 1) := by decide +kernel
theorem dX12_pattern_130 : decode cX12_pattern 130 = .ok (.iconst 0, 1) := by decide +kernel
theorem dX12_pattern_131 : decode cX12_pattern 131 = .ok (.iastore, 1) := by decide +kernel
theorem dX12_pattern_132 : decode cX12_pattern 132 = .ok (.iinc 1 1, 3) := by decide +kernel
theorem dX12_pattern_135 : decode cX12_pattern 135 = .ok (.goto (-23), 3) := by decide +kernel
theorem dX12_pattern_138 : decode cX12_pattern 138 = .ok (.aload_n 0, 1) := by decide +kernel
theorem dX12_pattern_139 : decode cX12_pattern 139 = .ok (.invokevirtual 200, 3) := by decide +kernel
theorem dX12_pattern_142 : decode cX12_pattern 142 = .ok (.ireturn, 1) := by decide +kernel
theorem dX12_pattern_74 : decode cX12_pattern 74 = .ok (.bipush (-4), 2) := by decide +kernel
theorem dX12_pattern_76 : decode cX12_pattern 76 = .ok (.ireturn, 1) := by decide +kernel
theorem dX12_pattern_60 : decode cX12_pattern 60 = .ok (.aload_n 0, 1) := by decide +kernel
theorem dX12_pattern_61 : decode cX12_pattern 61 = .ok (.getfield 120, 3) := by decide +kernel
theorem dX12_pattern_64 : decode cX12_pattern 64 = .ok (.ifCond .ne (-15), 3) := by decide +kernel
theorem dX12_readLoss_0 : decode cX12_readLoss 0 = .ok (.sipush 1012, 3) := by decide +kernel
theorem dX12_readLoss_3 : decode cX12_readLoss 3 = .ok (.iconst 3, 1) := by decide +kernel
theorem dX12_readLoss_4 : decode cX12_readLoss 4 = .ok (.aload_n 0, 1) := by decide +kernel
theorem dX12_readLoss_5 : decode cX12_readLoss 5 = .ok (.getfield 34, 3) := by decide +kernel
theorem dX12_readLoss_8 : decode cX12_readLoss 8 = .ok (.bipush 6, 2) := by decide +kernel
theorem dX12_readLoss_10 : decode cX12_readLoss 10 = .ok (.iaload, 1) := by decide +kernel
theorem dX12_readLoss_11 : decode cX12_readLoss 11 = .ok (.imul, 1) := by decide +kernel
theorem dX12_readLoss_12 : decode cX12_readLoss 12 = .ok (.iadd, 1) := by decide +kernel
theorem dX12_readLoss_13 : decode cX12_readLoss 13 = .ok (.istore_n 1, 1) := by decide +kernel
theorem dX12_readLoss_14 : decode cX12_readLoss 14 = .ok (.aload_n 0, 1) := by decide +kernel
theorem dX12_readLoss_15 : decode cX12_readLoss 15 = .ok (.ldc_w 287, 3) := by decide +kernel
theorem dX12_readLoss_18 : decode cX12_readLoss 18 = .ok (.invokevirtual 152, 3) := by decide +kernel
theorem dX12_readLoss_49 : decode cX12_readLoss 49 = .ok (.istore_n 2, 1) := by decide +kernel
theorem dX12_readLoss_50 : decode cX12_readLoss 50 = .ok (.iload_n 2, 1) := by decide +kernel
theorem dX12_readLoss_51 : decode cX12_readLoss 51 = .ok (.ifCond .ne 8, 3) := by decide +kernel
theorem dX12_readLoss_59 : decode cX12_readLoss 59 = .ok (.iload_n 2, 1) := by decide +kernel
theorem dX12_readLoss_60 : decode cX12_readLoss 60 = .ok (.ifCond .eq 20, 3) := by decide +kernel
theorem dX12_readLoss_63 : decode cX12_readLoss 63 = .ok (.aload_n 0, 1) := by decide +kernel
theorem dX12_readLoss_64 : decode cX12_readLoss 64 = .ok (.getfield 34, 3) := by decide +kernel
theorem dX12_readLoss_67 : decode cX12_readLoss 67 = .ok (.bipush 6, 2) := by decide +kernel
theorem dX12_readLoss_69 : decode cX12_readLoss 69 = .ok (.iaload, 1) := by decide +kernel
theorem dX12_readLoss_70 : decode cX12_readLoss 70 = .ok (.bipush 12, 2) := by decide +kernel
theorem dX12_readLoss_72 : decode cX12_readLoss 72 = .ok (.if_icmp .ne 8, 3) := by decide +kernel
theorem dX12_readLoss_80 : decode cX12_readLoss 80 = .ok (.aload_n 0, 1) := by decide +kernel
theorem dX12_readLoss_81 : decode cX12_readLoss 81 = .ok (.invokevirtual 139, 3) := by decide +kernel
theorem dX12_readLoss_84 : decode cX12_readLoss 84 = .ok (.ifCond .ne 4, 3) := by decide +kernel
theorem dX12_readLoss_88 : decode cX12_readLoss 88 = .ok (.aload_n 0, 1) := by decide +kernel
theorem dX12_readLoss_89 : decode cX12_readLoss 89 = .ok (.ldc_w 287, 3) := by decide +kernel
theorem dX12_readLoss_92 : decode cX12_readLoss 92 = .ok (.invokevirtual 159, 3) := by decide +kernel
theorem dX12_readLoss_95 : decode cX12_readLoss 95 = .ok (.ifCond .eq 98, 3) := by decide +kernel
theorem dX12_readLoss_193 : decode cX12_readLoss 193 = .ok (.aload_n 0, 1) := by decide +kernel
theorem dX12_readLoss_194 : decode cX12_readLoss 194 = .ok (.ldc_w 289, 3) := by decide +kernel
theorem dX12_readLoss_197 : decode cX12_readLoss 197 = .ok (.invokevirtual 159, 3) := by decide +kernel
theorem dX12_readLoss_200 : decode cX12_readLoss 200 = .ok (.ifCond .eq 47, 3) := by decide +kernel
theorem dX12_readLoss_247 : decode cX12_readLoss 247 = .ok (.aload_n 0, 1) := by decide +kernel
theorem dX12_readLoss_248 : decode cX12_readLoss 248 = .ok (.invokevirtual 156, 3) := by decide +kernel
theorem dX12_readLoss_251 : decode cX12_readLoss 251 = .ok (.aload_n 0, 1) := by decide +kernel
theorem dX12_readLoss_252 : decode cX12_readLoss 252 = .ok (.getfield 34, 3) := by decide +kernel
theorem dX12_readLoss_255 : decode cX12_readLoss 255 = .ok (.iload_n 1, 1) := by decide +kernel
theorem dX12_readLoss_256 : decode cX12_readLoss 256 = .ok (.iconst 3, 1) := by decide +kernel
theorem dX12_readLoss_257 : decode cX12_readLoss 257 = .ok (.iastore, 1) := by decide +kernel
theorem dX12_readLoss_258 : decode cX12_readLoss 258 = .ok (.aload_n 0, 1) := by decide +kernel
theorem dX12_readLoss_259 : decode cX12_readLoss 259 = .ok (.invokevirtual 178, 3) := by decide +kernel
theorem dX12_readLoss_262 : decode cX12_readLoss 262 = .ok (.aload_n 0, 1) := by decide +kernel
theorem dX12_readLoss_263 : decode cX12_readLoss 263 = .ok (.getfield 34, 3) := by decide +kernel
theorem dX12_readLoss_266 : decode cX12_readLoss 266 = .ok (.bipush 6, 2) := by decide +kernel
theorem dX12_readLoss_268 : decode cX12_readLoss 268 = .ok (.dup2, 1) := by decide +kernel
theorem dX12_readLoss_269 : decode cX12_readLoss 269 = .ok (.iaload, 1) := by decide +kernel
theorem dX12_readLoss_270 : decode cX12_readLoss 270 = .ok (.iconst 1, 1) := by decide +kernel
theorem dX12_readLoss_271 : decode cX12_readLoss 271 = .ok (.iadd, 1) := by decide +kernel
theorem dX12_readLoss_272 : decode cX12_readLoss 272 = .ok (.iastore, 1) := by decide +kernel
theorem dX12_readLoss_273 : decode cX12_readLoss 273 = .ok (.return_, 1) := by decide +kernel
theorem dX12_readLoss_203 : decode cX12_readLoss 203 = .ok (.aload_n 0, 1) := by decide +kernel
theorem dX12_readLoss_204 : decode cX12_readLoss 204 = .ok (.getfield 34, 3) := by decide +kernel
theorem dX12_readLoss_207 : decode cX12_readLoss 207 = .ok (.iload_n 1, 1) := by decide +kernel
theorem dX12_readLoss_208 : decode cX12_readLoss 208 = .ok (.iconst 2, 1) := by decide +kernel
theorem dX12_readLoss_209 : decode cX12_readLoss 209 = .ok (.iastore, 1) := by decide +kernel
theorem dX12_readLoss_210 : decode cX12_readLoss 210 = .ok (.aload_n 0, 1) := by decide +kernel
theorem dX12_readLoss_211 : decode cX12_readLoss 211 = .ok (.getfield 34, 3) := by decide +kernel
theorem dX12_readLoss_214 : decode cX12_readLoss 214 = .ok (.iload_n 1, 1) := by decide +kernel
theorem dX12_readLoss_215 : decode cX12_readLoss 215 = .ok (.iconst 1, 1) := by decide +kernel
theorem dX12_readLoss_216 : decode cX12_readLoss 216 = .ok (.iadd, 1) := by decide +kernel
theorem dX12_readLoss_217 : decode cX12_readLoss 217 = .ok (.aload_n 0, 1) := by decide +kernel
theorem dX12_readLoss_218 : decode cX12_readLoss 218 = .ok (.iconst 1, 1) := by decide +kernel
theorem dX12_readLoss_219 : decode cX12_readLoss 219 = .ok (.bipush 99, 2) := by decide +kernel
theorem dX12_readLoss_221 : decode cX12_readLoss 221 = .ok (.invokevirtual 170, 3) := by decide +kernel
theorem dX12_readLoss_224 : decode cX12_readLoss 224 = .ok (.iastore, 1) := by decide +kernel
theorem dX12_readLoss_225 : decode cX12_readLoss 225 = .ok (.aload_n 0, 1) := by decide +kernel
theorem dX12_readLoss_226 : decode cX12_readLoss 226 = .ok (.getfield 34, 3) := by decide +kernel
theorem dX12_readLoss_229 : decode cX12_readLoss 229 = .ok (.iload_n 1, 1) := by decide +kernel
theorem dX12_readLoss_230 : decode cX12_readLoss 230 = .ok (.iconst 2, 1) := by decide +kernel
theorem dX12_readLoss_231 : decode cX12_readLoss 231 = .ok (.iadd, 1) := by decide +kernel
theorem dX12_readLoss_232 : decode cX12_readLoss 232 = .ok (.aload_n 0, 1) := by decide +kernel
theorem dX12_readLoss_233 : decode cX12_readLoss 233 = .ok (.ldc_w 297, 3) := by decide +kernel
theorem dX12_readLoss_236 : decode cX12_readLoss 236 = .ok (.iconst 0, 1) := by decide +kernel
theorem dX12_readLoss_237 : decode cX12_readLoss 237 = .ok (.sipush 255, 3) := by decide +kernel
theorem dX12_readLoss_240 : decode cX12_readLoss 240 = .ok (.invokevirtual 189, 3) := by decide +kernel
theorem dX12_readLoss_243 : decode cX12_readLoss 243 = .ok (.iastore, 1) := by decide +kernel
theorem dX12_readLoss_244 : decode cX12_readLoss 244 = .ok (.goto 14, 3) := by decide +kernel
theorem dX12_readLoss_98 : decode cX12_readLoss 98 = .ok (.aload_n 0, 1) := by decide +kernel
theorem dX12_readLoss_99 : decode cX12_readLoss 99 = .ok (.ldc_w 293, 3) := by decide +kernel
theorem dX12_readLoss_102 : decode cX12_readLoss 102 = .ok (.invokevirtual 152, 3) := by decide +kernel
theorem dX12_readLoss_105 : decode cX12_readLoss 105 = .ok (.istore_n 3, 1) := by decide +kernel
theorem dX12_readLoss_106 : decode cX12_readLoss 106 = .ok (.iload_n 3, 1) := by decide +kernel
theorem dX12_readLoss_107 : decode cX12_readLoss 107 = .ok (.ifCond .ne 17, 3) := by decide +kernel
theorem dX12_readLoss_124 : decode cX12_readLoss 124 = .ok (.aload_n 0, 1) := by decide +kernel
theorem dX12_readLoss_125 : decode cX12_readLoss 125 = .ok (.invokevirtual 139, 3) := by decide +kernel
theorem dX12_readLoss_128 : decode cX12_readLoss 128 = .ok (.ifCond .eq 7, 3) := by decide +kernel
theorem dX12_readLoss_131 : decode cX12_readLoss 131 = .ok (.aload_n 0, 1) := by decide +kernel
theorem dX12_readLoss_132 : decode cX12_readLoss 132 = .ok (.invokevirtual 156, 3) := by decide +kernel
theorem dX12_readLoss_135 : decode cX12_readLoss 135 = .ok (.aload_n 0, 1) := by decide +kernel
theorem dX12_readLoss_136 : decode cX12_readLoss 136 = .ok (.getfield 34, 3) := by decide +kernel
theorem dX12_readLoss_139 : decode cX12_readLoss 139 = .ok (.iload_n 1, 1) := by decide +kernel
theorem dX12_readLoss_140 : decode cX12_readLoss 140 = .ok (.iload_n 3, 1) := by decide +kernel
theorem dX12_readLoss_141 : decode cX12_readLoss 141 = .ok (.ifCond .eq 7, 3) := by decide +kernel
theorem dX12_readLoss_144 : decode cX12_readLoss 144 = .ok (.iconst 1, 1) := by decide +kernel
theorem dX12_readLoss_145 : decode cX12_readLoss 145 = .ok (.goto 4, 3) := by decide +kernel
theorem dX12_readLoss_149 : decode cX12_readLoss 149 = .ok (.iastore, 1) := by decide +kernel
theorem dX12_readLoss_150 : decode cX12_readLoss 150 = .ok (.aload_n 0, 1) := by decide +kernel
theorem dX12_readLoss_151 : decode cX12_readLoss 151 = .ok (.getfield 34, 3) := by decide +kernel
theorem dX12_readLoss_154 : decode cX12_readLoss 154 = .ok (.iload_n 1, 1) := by decide +kernel
theorem dX12_readLoss_155 : decode cX12_readLoss 155 = .ok (.iconst 1, 1) := by decide +kernel
theorem dX12_readLoss_156 : decode cX12_readLoss 156 = .ok (.iadd, 1) := by decide +kernel
theorem dX12_readLoss_157 : decode cX12_readLoss 157 = .ok (.aload_n 0, 1) := by decide +kernel
theorem dX12_readLoss_158 : decode cX12_readLoss 158 = .ok (.iconst 0, 1) := by decide +kernel
theorem dX12_readLoss_159 : decode cX12_readLoss 159 = .ok (.bipush 15, 2) := by decide +kernel
theorem dX12_readLoss_161 : decode cX12_readLoss 161 = .ok (.invokevirtual 170, 3) := by decide +kernel
theorem dX12_readLoss_164 : decode cX12_readLoss 164 = .ok (.iastore, 1) := by decide +kernel
theorem dX12_readLoss_165 : decode cX12_readLoss 165 = .ok (.aload_n 0, 1) := by decide +kernel
theorem dX12_readLoss_166 : decode cX12_readLoss 166 = .ok (.getfield 34, 3) := by decide +kernel
theorem dX12_readLoss_169 : decode cX12_readLoss 169 = .ok (.iload_n 1, 1) := by decide +kernel
theorem dX12_readLoss_170 : decode cX12_readLoss 170 = .ok (.iconst 2, 1) := by decide +kernel
theorem dX12_readLoss_171 : decode cX12_readLoss 171 = .ok (.iadd, 1) := by decide +kernel
theorem dX12_readLoss_172 : decode cX12_readLoss 172 = .ok (.aload_n 0, 1) := by decide +kernel
theorem dX12_readLoss_173 : decode cX12_readLoss 173 = .ok (.ldc_w 295, 3) := by decide +kernel
theorem dX12_readLoss_176 : decode cX12_readLoss 176 = .ok (.aload_n 0, 1) := by decide +kernel
theorem dX12_readLoss_177 : decode cX12_readLoss 177 = .ok (.getfield 34, 3) := by decide +kernel
theorem dX12_readLoss_180 : decode cX12_readLoss 180 = .ok (.iload_n 1, 1) := by decide +kernel
theorem dX12_readLoss_181 : decode cX12_readLoss 181 = .ok (.iconst 1, 1) := by decide +kernel
theorem dX12_readLoss_182 : decode cX12_readLoss 182 = .ok (.iadd, 1) := by decide +kernel
theorem dX12_readLoss_183 : decode cX12_readLoss 183 = .ok (.iaload, 1) := by decide +kernel
theorem dX12_readLoss_184 : decode cX12_readLoss 184 = .ok (.bipush 15, 2) := by decide +kernel
theorem dX12_readLoss_186 : decode cX12_readLoss 186 = .ok (.invokevirtual 189, 3) := by decide +kernel
theorem dX12_readLoss_189 : decode cX12_readLoss 189 = .ok (.iastore, 1) := by decide +kernel
theorem dX12_readLoss_190 : decode cX12_readLoss 190 = .ok (.goto 68, 3) := by decide +kernel
theorem dX12_readLoss_110 : decode cX12_readLoss 110 = .ok (.aload_n 0, 1) := by decide +kernel
theorem dX12_readLoss_111 : decode cX12_readLoss 111 = .ok (.ldc 193, 2) := by decide +kernel
theorem dX12_readLoss_113 : decode cX12_readLoss 113 = .ok (.invokevirtual 152, 3) := by decide +kernel
theorem dX12_readLoss_116 : decode cX12_readLoss 116 = .ok (.ifCond .ne 8, 3) := by decide +kernel
theorem dX12_readLoss_148 : decode cX12_readLoss 148 = .ok (.iconst 0, 1) := by decide +kernel
theorem dX12_readLoss_119 : decode cX12_readLoss 119 = .ok (.aload_n 0, 1) := by decide +kernel
theorem dX12_readLoss_120 : decode cX12_readLoss 120 = .ok (.iconst 1, 1) := by decide +kernel
theorem dX12_readLoss_121 : decode cX12_readLoss 121 = .ok (.invokevirtual 162, 3) := by decide +kernel
theorem dX12_readLoss_87 : decode cX12_readLoss 87 = .ok (.return_, 1) := by decide +kernel
theorem dX12_readLoss_75 : decode cX12_readLoss 75 = .ok (.aload_n 0, 1) := by decide +kernel
theorem dX12_readLoss_76 : decode cX12_readLoss 76 = .ok (.iconst 3, 1) := by decide +kernel
theorem dX12_readLoss_77 : decode cX12_readLoss 77 = .ok (.invokevirtual 162, 3) := by decide +kernel
theorem dX12_readLoss_54 : decode cX12_readLoss 54 = .ok (.aload_n 0, 1) := by decide +kernel
theorem dX12_readLoss_55 : decode cX12_readLoss 55 = .ok (.iconst 1, 1) := by decide +kernel
theorem dX12_readLoss_56 : decode cX12_readLoss 56 = .ok (.invokevirtual 162, 3) := by decide +kernel
theorem dX12_readLoss_21 : decode cX12_readLoss 21 = .ok (.ifCond .ne 23, 3) := by decide +kernel
theorem dX12_readLoss_44 : decode cX12_readLoss 44 = .ok (.iconst 1, 1) := by decide +kernel
theorem dX12_readLoss_45 : decode cX12_readLoss 45 = .ok (.goto 4, 3) := by decide +kernel
theorem dX12_readLoss_24 : decode cX12_readLoss 24 = .ok (.aload_n 0, 1) := by decide +kernel
theorem dX12_readLoss_25 : decode cX12_readLoss 25 = .ok (.ldc_w 289, 3) := by decide +kernel
theorem dX12_readLoss_28 : decode cX12_readLoss 28 = .ok (.invokevirtual 152, 3) := by decide +kernel
theorem dX12_readLoss_31 : decode cX12_readLoss 31 = .ok (.ifCond .ne 13, 3) := by decide +kernel
theorem dX12_readLoss_34 : decode cX12_readLoss 34 = .ok (.aload_n 0, 1) := by decide +kernel
theorem dX12_readLoss_35 : decode cX12_readLoss 35 = .ok (.ldc_w 291, 3) := by decide +kernel
theorem dX12_readLoss_38 : decode cX12_readLoss 38 = .ok (.invokevirtual 152, 3) := by decide +kernel
theorem dX12_readLoss_41 : decode cX12_readLoss 41 = .ok (.ifCond .eq 7, 3) := by decide +kernel
theorem dX12_readLoss_48 : decode cX12_readLoss 48 = .ok (.iconst 0, 1) := by decide +kernel
theorem dX12_losses_0 : decode cX12_losses 0 = .ok (.aload_n 0, 1) := by decide +kernel
theorem dX12_losses_1 : decode cX12_losses 1 = .ok (.invokevirtual 181, 3) := by decide +kernel
theorem dX12_losses_4 : decode cX12_losses 4 = .ok (.aload_n 0, 1) := by decide +kernel
theorem dX12_losses_5 : decode cX12_losses 5 = .ok (.getfield 34, 3) := by decide +kernel
theorem dX12_losses_8 : decode cX12_losses 8 = .ok (.bipush 6, 2) := by decide +kernel
theorem dX12_losses_10 : decode cX12_losses 10 = .ok (.iconst 0, 1) := by decide +kernel
theorem dX12_losses_11 : decode cX12_losses 11 = .ok (.iastore, 1) := by decide +kernel
theorem dX12_losses_12 : decode cX12_losses 12 = .ok (.aload_n 0, 1) := by decide +kernel
theorem dX12_losses_13 : decode cX12_losses 13 = .ok (.invokevirtual 156, 3) := by decide +kernel
theorem dX12_losses_16 : decode cX12_losses 16 = .ok (.aload_n 0, 1) := by decide +kernel
theorem dX12_losses_17 : decode cX12_losses 17 = .ok (.invokevirtual 139, 3) := by decide +kernel
theorem dX12_losses_20 : decode cX12_losses 20 = .ok (.ifCond .eq 17, 3) := by decide +kernel
theorem dX12_losses_37 : decode cX12_losses 37 = .ok (.aload_n 0, 1) := by decide +kernel
theorem dX12_losses_38 : decode cX12_losses 38 = .ok (.invokevirtual 139, 3) := by decide +kernel
theorem dX12_losses_41 : decode cX12_losses 41 = .ok (.ifCond .ne 6, 3) := by decide +kernel
theorem dX12_losses_44 : decode cX12_losses 44 = .ok (.bipush (-4), 2) := by decide +kernel
theorem dX12_losses_46 : decode cX12_losses 46 = .ok (.ireturn, 1) := by decide +kernel
theorem dX12_losses_23 : decode cX12_losses 23 = .ok (.aload_n 0, 1) := by decide +kernel
theorem dX12_losses_24 : decode cX12_losses 24 = .ok (.getfield 120, 3) := by decide +kernel
theorem dX12_losses_27 : decode cX12_losses 27 = .ok (.ifCond .eq 10, 3) := by decide +kernel
theorem dX12_losses_47 : decode cX12_losses 47 = .ok (.aload_n 0, 1) := by decide +kernel
theorem dX12_losses_48 : decode cX12_losses 48 = .ok (.getfield 13, 3) := by decide +kernel
theorem dX12_losses_51 : decode cX12_losses 51 = .ok (.bipush 6, 2) := by decide +kernel
theorem dX12_losses_53 : decode cX12_losses 53 = .ok (.aload_n 0, 1) := by decide +kernel
theorem dX12_losses_54 : decode cX12_losses 54 = .ok (.getfield 34, 3) := by decide +kernel
theorem dX12_losses_57 : decode cX12_losses 57 = .ok (.bipush 6, 2) := by decide +kernel
theorem dX12_losses_59 : decode cX12_losses 59 = .ok (.iaload, 1) := by decide +kernel
theorem dX12_losses_60 : decode cX12_losses 60 = .ok (.iastore, 1) := by decide +kernel
theorem dX12_losses_61 : decode cX12_losses 61 = .ok (.aload_n 0, 1) := by decide +kernel
theorem dX12_losses_62 : decode cX12_losses 62 = .ok (.sipush 1012, 3) := by decide +kernel
theorem dX12_losses_65 : decode cX12_losses 65 = .ok (.sipush 1048, 3) := by decide +kernel
theorem dX12_losses_68 : decode cX12_losses 68 = .ok (.invokevirtual 197, 3) := by decide +kernel
theorem dX12_losses_71 : decode cX12_losses 71 = .ok (.aload_n 0, 1) := by decide +kernel
theorem dX12_losses_72 : decode cX12_losses 72 = .ok (.getfield 13, 3) := by decide +kernel
theorem dX12_losses_75 : decode cX12_losses 75 = .ok (.bipush 6, 2) := by decide +kernel
theorem dX12_losses_77 : decode cX12_losses 77 = .ok (.iaload, 1) := by decide +kernel
theorem dX12_losses_78 : decode cX12_losses 78 = .ok (.ireturn, 1) := by decide +kernel
theorem dX12_losses_30 : decode cX12_losses 30 = .ok (.aload_n 0, 1) := by decide +kernel
theorem dX12_losses_31 : decode cX12_losses 31 = .ok (.invokevirtual 298, 3) := by decide +kernel
theorem dX12_losses_34 : decode cX12_losses 34 = .ok (.goto (-18), 3) := by decide +kernel
theorem dX12_hasPattern_0 : decode cX12_hasPattern 0 = .ok (.aload_n 0, 1) := by decide +kernel
theorem dX12_hasPattern_1 : decode cX12_hasPattern 1 = .ok (.invokevirtual 83, 3) := by decide +kernel
theorem dX12_hasPattern_4 : decode cX12_hasPattern 4 = .ok (.ifCond .le 7, 3) := by decide +kernel
theorem dX12_hasPattern_11 : decode cX12_hasPattern 11 = .ok (.iconst 0, 1) := by decide +kernel
theorem dX12_hasPattern_12 : decode cX12_hasPattern 12 = .ok (.ireturn, 1) := by decide +kernel
theorem dX12_hasPattern_7 : decode cX12_hasPattern 7 = .ok (.iconst 1, 1) := by decide +kernel
theorem dX12_hasPattern_8 : decode cX12_hasPattern 8 = .ok (.goto 4, 3) := by decide +kernel
theorem dX12_isSlot_0 : decode cX12_isSlot 0 = .ok (.iload_n 0, 1) := by decide +kernel
theorem dX12_isSlot_1 : decode cX12_isSlot 1 = .ok (.i2l, 1) := by decide +kernel
theorem dX12_isSlot_2 : decode cX12_isSlot 2 = .ok (.lconst 0, 1) := by decide +kernel
theorem dX12_isSlot_3 : decode cX12_isSlot 3 = .ok (.ldc2_w 90, 3) := by decide +kernel
theorem dX12_isSlot_6 : decode cX12_isSlot 6 = .ok (.invokestatic 79, 3) := by decide +kernel
theorem dX12_isSlot_9 : decode cX12_isSlot 9 = .ok (.ireturn, 1) := by decide +kernel
theorem dX12_isSeed_0 : decode cX12_isSeed 0 = .ok (.iload_n 0, 1) := by decide +kernel
theorem dX12_isSeed_1 : decode cX12_isSeed 1 = .ok (.i2l, 1) := by decide +kernel
theorem dX12_isSeed_2 : decode cX12_isSeed 2 = .ok (.lconst 0, 1) := by decide +kernel
theorem dX12_isSeed_3 : decode cX12_isSeed 3 = .ok (.ldc2_w 317, 3) := by decide +kernel
theorem dX12_isSeed_6 : decode cX12_isSeed 6 = .ok (.invokestatic 79, 3) := by decide +kernel
theorem dX12_isSeed_9 : decode cX12_isSeed 9 = .ok (.ireturn, 1) := by decide +kernel
theorem dX12_knits_0 : decode cX12_knits 0 = .ok (.lload_n 1, 1) := by decide +kernel
theorem dX12_knits_1 : decode cX12_knits 1 = .ok (.lstore_n 3, 1) := by decide +kernel
theorem dX12_knits_2 : decode cX12_knits 2 = .ok (.iconst 0, 1) := by decide +kernel
theorem dX12_knits_3 : decode cX12_knits 3 = .ok (.istore 5, 2) := by decide +kernel
theorem dX12_knits_5 : decode cX12_knits 5 = .ok (.iconst 0, 1) := by decide +kernel
theorem dX12_knits_6 : decode cX12_knits 6 = .ok (.istore 6, 2) := by decide +kernel
theorem dX12_knits_8 : decode cX12_knits 8 = .ok (.iload 6, 2) := by decide +kernel
theorem dX12_knits_10 : decode cX12_knits 10 = .ok (.aload_n 0, 1) := by decide +kernel
theorem dX12_knits_11 : decode cX12_knits 11 = .ok (.invokevirtual 203, 3) := by decide +kernel
theorem dX12_knits_14 : decode cX12_knits 14 = .ok (.if_icmp .ge 110, 3) := by decide +kernel
theorem dX12_knits_124 : decode cX12_knits 124 = .ok (.iload 5, 2) := by decide +kernel
theorem dX12_knits_126 : decode cX12_knits 126 = .ok (.ireturn, 1) := by decide +kernel
theorem dX12_knits_17 : decode cX12_knits 17 = .ok (.aload_n 0, 1) := by decide +kernel
theorem dX12_knits_18 : decode cX12_knits 18 = .ok (.getfield 37, 3) := by decide +kernel
theorem dX12_knits_21 : decode cX12_knits 21 = .ok (.iload 6, 2) := by decide +kernel
theorem dX12_knits_23 : decode cX12_knits 23 = .ok (.aload_n 0, 1) := by decide +kernel
theorem dX12_knits_24 : decode cX12_knits 24 = .ok (.iload 6, 2) := by decide +kernel
theorem dX12_knits_26 : decode cX12_knits 26 = .ok (.invokevirtual 206, 3) := by decide +kernel
theorem dX12_knits_42 : decode cX12_knits 42 = .ok (.iastore, 1) := by decide +kernel
theorem dX12_knits_43 : decode cX12_knits 43 = .ok (.aload_n 0, 1) := by decide +kernel
theorem dX12_knits_44 : decode cX12_knits 44 = .ok (.iload 6, 2) := by decide +kernel
theorem dX12_knits_46 : decode cX12_knits 46 = .ok (.invokevirtual 206, 3) := by decide +kernel
theorem dX12_knits_49 : decode cX12_knits 49 = .ok (.ifCond .ne 6, 3) := by decide +kernel
theorem dX12_knits_55 : decode cX12_knits 55 = .ok (.ldc2_w 304, 3) := by decide +kernel
theorem dX12_knits_58 : decode cX12_knits 58 = .ok (.lload_n 3, 1) := by decide +kernel
theorem dX12_knits_59 : decode cX12_knits 59 = .ok (.lmul, 1) := by decide +kernel
theorem dX12_knits_60 : decode cX12_knits 60 = .ok (.ldc2_w 306, 3) := by decide +kernel
theorem dX12_knits_63 : decode cX12_knits 63 = .ok (.ladd, 1) := by decide +kernel
theorem dX12_knits_64 : decode cX12_knits 64 = .ok (.ldc2_w 308, 3) := by decide +kernel
theorem dX12_knits_67 : decode cX12_knits 67 = .ok (.lrem, 1) := by decide +kernel
theorem dX12_knits_68 : decode cX12_knits 68 = .ok (.lstore_n 3, 1) := by decide +kernel
theorem dX12_knits_69 : decode cX12_knits 69 = .ok (.lload_n 3, 1) := by decide +kernel
theorem dX12_knits_70 : decode cX12_knits 70 = .ok (.ldc2_w 310, 3) := by decide +kernel
theorem dX12_knits_73 : decode cX12_knits 73 = .ok (.ldiv, 1) := by decide +kernel
theorem dX12_knits_74 : decode cX12_knits 74 = .ok (.ldc2_w 312, 3) := by decide +kernel
theorem dX12_knits_77 : decode cX12_knits 77 = .ok (.lrem, 1) := by decide +kernel
theorem dX12_knits_78 : decode cX12_knits 78 = .ok (.aload_n 0, 1) := by decide +kernel
theorem dX12_knits_79 : decode cX12_knits 79 = .ok (.getfield 13, 3) := by decide +kernel
theorem dX12_knits_82 : decode cX12_knits 82 = .ok (.bipush 10, 2) := by decide +kernel
theorem dX12_knits_84 : decode cX12_knits 84 = .ok (.aload_n 0, 1) := by decide +kernel
theorem dX12_knits_85 : decode cX12_knits 85 = .ok (.iload 6, 2) := by decide +kernel
theorem dX12_knits_87 : decode cX12_knits 87 = .ok (.invokevirtual 98, 3) := by decide +kernel
theorem dX12_knits_90 : decode cX12_knits 90 = .ok (.iadd, 1) := by decide +kernel
theorem dX12_knits_91 : decode cX12_knits 91 = .ok (.iconst 2, 1) := by decide +kernel
theorem dX12_knits_92 : decode cX12_knits 92 = .ok (.isub, 1) := by decide +kernel
theorem dX12_knits_93 : decode cX12_knits 93 = .ok (.iaload, 1) := by decide +kernel
theorem dX12_knits_94 : decode cX12_knits 94 = .ok (.i2l, 1) := by decide +kernel
theorem dX12_knits_95 : decode cX12_knits 95 = .ok (.lcmp, 1) := by decide +kernel
theorem dX12_knits_96 : decode cX12_knits 96 = .ok (.ifCond .lt 6, 3) := by decide +kernel
theorem dX12_knits_102 : decode cX12_knits 102 = .ok (.aload_n 0, 1) := by decide +kernel
theorem dX12_knits_103 : decode cX12_knits 103 = .ok (.getfield 37, 3) := by decide +kernel
theorem dX12_knits_106 : decode cX12_knits 106 = .ok (.iload 6, 2) := by decide +kernel
theorem dX12_knits_108 : decode cX12_knits 108 = .ok (.aload_n 0, 1) := by decide +kernel
theorem dX12_knits_109 : decode cX12_knits 109 = .ok (.iload 6, 2) := by decide +kernel
theorem dX12_knits_111 : decode cX12_knits 111 = .ok (.invokevirtual 314, 3) := by decide +kernel
theorem dX12_knits_114 : decode cX12_knits 114 = .ok (.iastore, 1) := by decide +kernel
theorem dX12_knits_115 : decode cX12_knits 115 = .ok (.iinc 5 1, 3) := by decide +kernel
theorem dX12_knits_118 : decode cX12_knits 118 = .ok (.iinc 6 1, 3) := by decide +kernel
theorem dX12_knits_121 : decode cX12_knits 121 = .ok (.goto (-113), 3) := by decide +kernel
theorem dX12_knits_99 : decode cX12_knits 99 = .ok (.goto 19, 3) := by decide +kernel
theorem dX12_knits_52 : decode cX12_knits 52 = .ok (.goto 66, 3) := by decide +kernel
theorem dX12_knits_29 : decode cX12_knits 29 = .ok (.ifCond .eq 7, 3) := by decide +kernel
theorem dX12_knits_36 : decode cX12_knits 36 = .ok (.aload_n 0, 1) := by decide +kernel
theorem dX12_knits_37 : decode cX12_knits 37 = .ok (.iload 6, 2) := by decide +kernel
theorem dX12_knits_39 : decode cX12_knits 39 = .ok (.invokevirtual 98, 3) := by decide +kernel
theorem dX12_knits_32 : decode cX12_knits 32 = .ok (.iconst 0, 1) := by decide +kernel
theorem dX12_knits_33 : decode cX12_knits 33 = .ok (.goto 9, 3) := by decide +kernel
theorem dX12_bitOf_0 : decode cX12_bitOf 0 = .ok (.iconst 0, 1) := by decide +kernel
theorem dX12_bitOf_1 : decode cX12_bitOf 1 = .ok (.istore_n 3, 1) := by decide +kernel
theorem dX12_bitOf_2 : decode cX12_bitOf 2 = .ok (.iconst 0, 1) := by decide +kernel
theorem dX12_bitOf_3 : decode cX12_bitOf 3 = .ok (.istore 4, 2) := by decide +kernel
theorem dX12_bitOf_5 : decode cX12_bitOf 5 = .ok (.iconst 0, 1) := by decide +kernel
theorem dX12_bitOf_6 : decode cX12_bitOf 6 = .ok (.istore 5, 2) := by decide +kernel
theorem dX12_bitOf_8 : decode cX12_bitOf 8 = .ok (.iload 5, 2) := by decide +kernel
theorem dX12_bitOf_10 : decode cX12_bitOf 10 = .ok (.aload_n 0, 1) := by decide +kernel
theorem dX12_bitOf_11 : decode cX12_bitOf 11 = .ok (.iload_n 1, 1) := by decide +kernel
theorem dX12_bitOf_12 : decode cX12_bitOf 12 = .ok (.iconst 4, 1) := by decide +kernel
theorem dX12_bitOf_13 : decode cX12_bitOf 13 = .ok (.invokevirtual 94, 3) := by decide +kernel
theorem dX12_bitOf_16 : decode cX12_bitOf 16 = .ok (.if_icmp .ge 56, 3) := by decide +kernel
theorem dX12_bitOf_72 : decode cX12_bitOf 72 = .ok (.iload_n 3, 1) := by decide +kernel
theorem dX12_bitOf_73 : decode cX12_bitOf 73 = .ok (.iload 4, 2) := by decide +kernel
theorem dX12_bitOf_75 : decode cX12_bitOf 75 = .ok (.if_icmp .le 7, 3) := by decide +kernel
theorem dX12_bitOf_82 : decode cX12_bitOf 82 = .ok (.iload 4, 2) := by decide +kernel
theorem dX12_bitOf_84 : decode cX12_bitOf 84 = .ok (.iload_n 3, 1) := by decide +kernel
theorem dX12_bitOf_85 : decode cX12_bitOf 85 = .ok (.if_icmp .le 7, 3) := by decide +kernel
theorem dX12_bitOf_92 : decode cX12_bitOf 92 = .ok (.iconst 2, 1) := by decide +kernel
theorem dX12_bitOf_93 : decode cX12_bitOf 93 = .ok (.ireturn, 1) := by decide +kernel
theorem dX12_bitOf_88 : decode cX12_bitOf 88 = .ok (.iconst 0, 1) := by decide +kernel
theorem dX12_bitOf_89 : decode cX12_bitOf 89 = .ok (.goto 4, 3) := by decide +kernel
theorem dX12_bitOf_78 : decode cX12_bitOf 78 = .ok (.iconst 1, 1) := by decide +kernel
theorem dX12_bitOf_79 : decode cX12_bitOf 79 = .ok (.goto 14, 3) := by decide +kernel
theorem dX12_bitOf_19 : decode cX12_bitOf 19 = .ok (.aload_n 0, 1) := by decide +kernel
theorem dX12_bitOf_20 : decode cX12_bitOf 20 = .ok (.iload_n 1, 1) := by decide +kernel
theorem dX12_bitOf_21 : decode cX12_bitOf 21 = .ok (.iload_n 2, 1) := by decide +kernel
theorem dX12_bitOf_22 : decode cX12_bitOf 22 = .ok (.aload_n 0, 1) := by decide +kernel
theorem dX12_bitOf_23 : decode cX12_bitOf 23 = .ok (.iload_n 1, 1) := by decide +kernel
theorem dX12_bitOf_24 : decode cX12_bitOf 24 = .ok (.iconst 4, 1) := by decide +kernel
theorem dX12_bitOf_25 : decode cX12_bitOf 25 = .ok (.invokevirtual 94, 3) := by decide +kernel
theorem dX12_bitOf_28 : decode cX12_bitOf 28 = .ok (.imul, 1) := by decide +kernel
theorem dX12_bitOf_29 : decode cX12_bitOf 29 = .ok (.iload 5, 2) := by decide +kernel
theorem dX12_bitOf_31 : decode cX12_bitOf 31 = .ok (.iadd, 1) := by decide +kernel
theorem dX12_bitOf_32 : decode cX12_bitOf 32 = .ok (.invokevirtual 341, 3) := by decide +kernel
theorem dX12_bitOf_35 : decode cX12_bitOf 35 = .ok (.istore 6, 2) := by decide +kernel
theorem dX12_bitOf_37 : decode cX12_bitOf 37 = .ok (.iload_n 3, 1) := by decide +kernel
theorem dX12_bitOf_38 : decode cX12_bitOf 38 = .ok (.iload 6, 2) := by decide +kernel
theorem dX12_bitOf_40 : decode cX12_bitOf 40 = .ok (.iconst 1, 1) := by decide +kernel
theorem dX12_bitOf_49 : decode cX12_bitOf 49 = .ok (.iadd, 1) := by decide +kernel
theorem dX12_bitOf_50 : decode cX12_bitOf 50 = .ok (.istore_n 3, 1) := by decide +kernel
theorem dX12_bitOf_51 : decode cX12_bitOf 51 = .ok (.iload 4, 2) := by decide +kernel
theorem dX12_bitOf_53 : decode cX12_bitOf 53 = .ok (.iload 6, 2) := by decide +kernel
theorem dX12_bitOf_55 : decode cX12_bitOf 55 = .ok (.ifCond .ne 7, 3) := by decide +kernel
theorem dX12_bitOf_62 : decode cX12_bitOf 62 = .ok (.iconst 0, 1) := by decide +kernel
theorem dX12_bitOf_63 : decode cX12_bitOf 63 = .ok (.iadd, 1) := by decide +kernel
theorem dX12_bitOf_64 : decode cX12_bitOf 64 = .ok (.istore 4, 2) := by decide +kernel
theorem dX12_bitOf_66 : decode cX12_bitOf 66 = .ok (.iinc 5 1, 3) := by decide +kernel
theorem dX12_bitOf_69 : decode cX12_bitOf 69 = .ok (.goto (-61), 3) := by decide +kernel
theorem dX12_bitOf_58 : decode cX12_bitOf 58 = .ok (.iconst 1, 1) := by decide +kernel
theorem dX12_bitOf_59 : decode cX12_bitOf 59 = .ok (.goto 4, 3) := by decide +kernel
theorem dX12_bitOf_41 : decode cX12_bitOf 41 = .ok (.if_icmp .ne 7, 3) := by decide +kernel
theorem dX12_bitOf_48 : decode cX12_bitOf 48 = .ok (.iconst 0, 1) := by decide +kernel
theorem dX12_bitOf_44 : decode cX12_bitOf 44 = .ok (.iconst 1, 1) := by decide +kernel
theorem dX12_bitOf_45 : decode cX12_bitOf 45 = .ok (.goto 4, 3) := by decide +kernel
theorem dX12_asksCloth_0 : decode cX12_asksCloth 0 = .ok (.iload_n 1, 1) := by decide +kernel
theorem dX12_asksCloth_1 : decode cX12_asksCloth 1 = .ok (.invokestatic 319, 3) := by decide +kernel
theorem dX12_asksCloth_4 : decode cX12_asksCloth 4 = .ok (.ifCond .ne 8, 3) := by decide +kernel
theorem dX12_asksCloth_12 : decode cX12_asksCloth 12 = .ok (.aload_n 0, 1) := by decide +kernel
theorem dX12_asksCloth_13 : decode cX12_asksCloth 13 = .ok (.iload_n 1, 1) := by decide +kernel
theorem dX12_asksCloth_14 : decode cX12_asksCloth 14 = .ok (.invokevirtual 351, 3) := by decide +kernel
theorem dX12_asksCloth_17 : decode cX12_asksCloth 17 = .ok (.ifCond .eq 7, 3) := by decide +kernel
theorem dX12_asksCloth_24 : decode cX12_asksCloth 24 = .ok (.bipush (-6), 2) := by decide +kernel
theorem dX12_asksCloth_26 : decode cX12_asksCloth 26 = .ok (.ireturn, 1) := by decide +kernel
theorem dX12_asksCloth_20 : decode cX12_asksCloth 20 = .ok (.iconst 0, 1) := by decide +kernel
theorem dX12_asksCloth_21 : decode cX12_asksCloth 21 = .ok (.goto 5, 3) := by decide +kernel
theorem dX12_asksCloth_7 : decode cX12_asksCloth 7 = .ok (.bipush (-2), 2) := by decide +kernel
theorem dX12_asksCloth_9 : decode cX12_asksCloth 9 = .ok (.goto 17, 3) := by decide +kernel
theorem dX12_asksWay_0 : decode cX12_asksWay 0 = .ok (.iload_n 1, 1) := by decide +kernel
theorem dX12_asksWay_1 : decode cX12_asksWay 1 = .ok (.invokestatic 221, 3) := by decide +kernel
theorem dX12_asksWay_4 : decode cX12_asksWay 4 = .ok (.ifCond .ne 8, 3) := by decide +kernel
theorem dX12_asksWay_12 : decode cX12_asksWay 12 = .ok (.aload_n 0, 1) := by decide +kernel
theorem dX12_asksWay_13 : decode cX12_asksWay 13 = .ok (.iload_n 1, 1) := by decide +kernel
theorem dX12_asksWay_14 : decode cX12_asksWay 14 = .ok (.invokevirtual 354, 3) := by decide +kernel
theorem dX12_asksWay_17 : decode cX12_asksWay 17 = .ok (.ifCond .eq 7, 3) := by decide +kernel
theorem dX12_asksWay_24 : decode cX12_asksWay 24 = .ok (.bipush (-6), 2) := by decide +kernel
theorem dX12_asksWay_26 : decode cX12_asksWay 26 = .ok (.ireturn, 1) := by decide +kernel
theorem dX12_asksWay_20 : decode cX12_asksWay 20 = .ok (.iconst 0, 1) := by decide +kernel
theorem dX12_asksWay_21 : decode cX12_asksWay 21 = .ok (.goto 5, 3) := by decide +kernel
theorem dX12_asksWay_7 : decode cX12_asksWay 7 = .ok (.bipush (-2), 2) := by decide +kernel
theorem dX12_asksWay_9 : decode cX12_asksWay 9 = .ok (.goto 17, 3) := by decide +kernel
theorem dX12_asksTwo_0 : decode cX12_asksTwo 0 = .ok (.iload_n 1, 1) := by decide +kernel
theorem dX12_asksTwo_1 : decode cX12_asksTwo 1 = .ok (.invokestatic 319, 3) := by decide +kernel
theorem dX12_asksTwo_4 : decode cX12_asksTwo 4 = .ok (.ifCond .eq 10, 3) := by decide +kernel
theorem dX12_asksTwo_14 : decode cX12_asksTwo 14 = .ok (.bipush (-2), 2) := by decide +kernel
theorem dX12_asksTwo_16 : decode cX12_asksTwo 16 = .ok (.goto 25, 3) := by decide +kernel
theorem dX12_asksTwo_41 : decode cX12_asksTwo 41 = .ok (.ireturn, 1) := by decide +kernel
theorem dX12_asksTwo_7 : decode cX12_asksTwo 7 = .ok (.iload_n 2, 1) := by decide +kernel
theorem dX12_asksTwo_8 : decode cX12_asksTwo 8 = .ok (.invokestatic 319, 3) := by decide +kernel
theorem dX12_asksTwo_11 : decode cX12_asksTwo 11 = .ok (.ifCond .ne 8, 3) := by decide +kernel
theorem dX12_asksTwo_19 : decode cX12_asksTwo 19 = .ok (.aload_n 0, 1) := by decide +kernel
theorem dX12_asksTwo_20 : decode cX12_asksTwo 20 = .ok (.iload_n 1, 1) := by decide +kernel
theorem dX12_asksTwo_21 : decode cX12_asksTwo 21 = .ok (.invokevirtual 351, 3) := by decide +kernel
theorem dX12_asksTwo_24 : decode cX12_asksTwo 24 = .ok (.ifCond .eq 15, 3) := by decide +kernel
theorem dX12_asksTwo_39 : decode cX12_asksTwo 39 = .ok (.bipush (-6), 2) := by decide +kernel
theorem dX12_asksTwo_27 : decode cX12_asksTwo 27 = .ok (.aload_n 0, 1) := by decide +kernel
theorem dX12_asksTwo_28 : decode cX12_asksTwo 28 = .ok (.iload_n 2, 1) := by decide +kernel
theorem dX12_asksTwo_29 : decode cX12_asksTwo 29 = .ok (.invokevirtual 351, 3) := by decide +kernel
theorem dX12_asksTwo_32 : decode cX12_asksTwo 32 = .ok (.ifCond .eq 7, 3) := by decide +kernel
theorem dX12_asksTwo_35 : decode cX12_asksTwo 35 = .ok (.iconst 0, 1) := by decide +kernel
theorem dX12_asksTwo_36 : decode cX12_asksTwo 36 = .ok (.goto 5, 3) := by decide +kernel
theorem dX12_isPlace_0 : decode cX12_isPlace 0 = .ok (.iload_n 1, 1) := by decide +kernel
theorem dX12_isPlace_1 : decode cX12_isPlace 1 = .ok (.i2l, 1) := by decide +kernel
theorem dX12_isPlace_2 : decode cX12_isPlace 2 = .ok (.lconst 0, 1) := by decide +kernel
theorem dX12_isPlace_3 : decode cX12_isPlace 3 = .ok (.aload_n 0, 1) := by decide +kernel
theorem dX12_isPlace_4 : decode cX12_isPlace 4 = .ok (.invokevirtual 83, 3) := by decide +kernel
theorem dX12_isPlace_7 : decode cX12_isPlace 7 = .ok (.iconst 1, 1) := by decide +kernel
theorem dX12_isPlace_8 : decode cX12_isPlace 8 = .ok (.isub, 1) := by decide +kernel
theorem dX12_isPlace_9 : decode cX12_isPlace 9 = .ok (.i2l, 1) := by decide +kernel
theorem dX12_isPlace_10 : decode cX12_isPlace 10 = .ok (.invokestatic 79, 3) := by decide +kernel
theorem dX12_isPlace_13 : decode cX12_isPlace 13 = .ok (.ifCond .eq 23, 3) := by decide +kernel
theorem dX12_isPlace_36 : decode cX12_isPlace 36 = .ok (.iconst 0, 1) := by decide +kernel
theorem dX12_isPlace_37 : decode cX12_isPlace 37 = .ok (.ireturn, 1) := by decide +kernel
theorem dX12_isPlace_16 : decode cX12_isPlace 16 = .ok (.iload_n 2, 1) := by decide +kernel
theorem dX12_isPlace_17 : decode cX12_isPlace 17 = .ok (.i2l, 1) := by decide +kernel
theorem dX12_isPlace_18 : decode cX12_isPlace 18 = .ok (.lconst 0, 1) := by decide +kernel
theorem dX12_isPlace_19 : decode cX12_isPlace 19 = .ok (.aload_n 0, 1) := by decide +kernel
theorem dX12_isPlace_20 : decode cX12_isPlace 20 = .ok (.invokevirtual 87, 3) := by decide +kernel
theorem dX12_isPlace_23 : decode cX12_isPlace 23 = .ok (.iconst 1, 1) := by decide +kernel
theorem dX12_isPlace_24 : decode cX12_isPlace 24 = .ok (.isub, 1) := by decide +kernel
theorem dX12_isPlace_25 : decode cX12_isPlace 25 = .ok (.i2l, 1) := by decide +kernel
theorem dX12_isPlace_26 : decode cX12_isPlace 26 = .ok (.invokestatic 79, 3) := by decide +kernel
theorem dX12_isPlace_29 : decode cX12_isPlace 29 = .ok (.ifCond .eq 7, 3) := by decide +kernel
theorem dX12_isPlace_32 : decode cX12_isPlace 32 = .ok (.iconst 1, 1) := by decide +kernel
theorem dX12_isPlace_33 : decode cX12_isPlace 33 = .ok (.goto 4, 3) := by decide +kernel
theorem dX12_reads_0 : decode cX12_reads 0 = .ok (.aload_n 0, 1) := by decide +kernel
theorem dX12_reads_1 : decode cX12_reads 1 = .ok (.iload_n 1, 1) := by decide +kernel
theorem dX12_reads_2 : decode cX12_reads 2 = .ok (.invokevirtual 241, 3) := by decide +kernel
theorem dX12_reads_5 : decode cX12_reads 5 = .ok (.istore_n 2, 1) := by decide +kernel
theorem dX12_reads_6 : decode cX12_reads 6 = .ok (.iconst 0, 1) := by decide +kernel
theorem dX12_reads_7 : decode cX12_reads 7 = .ok (.istore_n 3, 1) := by decide +kernel
theorem dX12_reads_8 : decode cX12_reads 8 = .ok (.iconst 0, 1) := by decide +kernel
theorem dX12_reads_9 : decode cX12_reads 9 = .ok (.istore 4, 2) := by decide +kernel
theorem dX12_reads_11 : decode cX12_reads 11 = .ok (.iload 4, 2) := by decide +kernel
theorem dX12_reads_13 : decode cX12_reads 13 = .ok (.iconst 5, 1) := by decide +kernel
theorem dX12_reads_14 : decode cX12_reads 14 = .ok (.iadd, 1) := by decide +kernel
theorem dX12_reads_15 : decode cX12_reads 15 = .ok (.iload_n 2, 1) := by decide +kernel
theorem dX12_reads_16 : decode cX12_reads 16 = .ok (.if_icmp .gt 126, 3) := by decide +kernel
theorem dX12_reads_142 : decode cX12_reads 142 = .ok (.iconst (-1), 1) := by decide +kernel
theorem dX12_reads_143 : decode cX12_reads 143 = .ok (.ireturn, 1) := by decide +kernel
theorem dX12_reads_19 : decode cX12_reads 19 = .ok (.iconst 0, 1) := by decide +kernel
theorem dX12_reads_20 : decode cX12_reads 20 = .ok (.istore 5, 2) := by decide +kernel
theorem dX12_reads_22 : decode cX12_reads 22 = .ok (.iconst 1, 1) := by decide +kernel
theorem dX12_reads_23 : decode cX12_reads 23 = .ok (.istore 6, 2) := by decide +kernel
theorem dX12_reads_25 : decode cX12_reads 25 = .ok (.iconst 0, 1) := by decide +kernel
theorem dX12_reads_26 : decode cX12_reads 26 = .ok (.istore 7, 2) := by decide +kernel
theorem dX12_reads_28 : decode cX12_reads 28 = .ok (.iload 7, 2) := by decide +kernel
theorem dX12_reads_30 : decode cX12_reads 30 = .ok (.iconst 5, 1) := by decide +kernel
theorem dX12_reads_31 : decode cX12_reads 31 = .ok (.if_icmp .ge 48, 3) := by decide +kernel
theorem dX12_reads_79 : decode cX12_reads 79 = .ok (.iload 6, 2) := by decide +kernel
theorem dX12_reads_81 : decode cX12_reads 81 = .ok (.ifCond .eq 20, 3) := by decide +kernel
theorem dX12_reads_101 : decode cX12_reads 101 = .ok (.iload 6, 2) := by decide +kernel
theorem dX12_reads_103 : decode cX12_reads 103 = .ok (.ifCond .eq 12, 3) := by decide +kernel
theorem dX12_reads_115 : decode cX12_reads 115 = .ok (.aload_n 0, 1) := by decide +kernel
theorem dX12_reads_116 : decode cX12_reads 116 = .ok (.getfield 52, 3) := by decide +kernel
theorem dX12_reads_119 : decode cX12_reads 119 = .ok (.iload_n 3, 1) := by decide +kernel
theorem dX12_reads_120 : decode cX12_reads 120 = .ok (.iload 6, 2) := by decide +kernel
theorem dX12_reads_122 : decode cX12_reads 122 = .ok (.ifCond .eq 8, 3) := by decide +kernel
theorem dX12_reads_130 : decode cX12_reads 130 = .ok (.bipush 99, 2) := by decide +kernel
theorem dX12_reads_132 : decode cX12_reads 132 = .ok (.iastore, 1) := by decide +kernel
theorem dX12_reads_133 : decode cX12_reads 133 = .ok (.iinc 3 1, 3) := by decide +kernel
theorem dX12_reads_136 : decode cX12_reads 136 = .ok (.iinc 4 5, 3) := by decide +kernel
theorem dX12_reads_139 : decode cX12_reads 139 = .ok (.goto (-128), 3) := by decide +kernel
theorem dX12_reads_84 : decode cX12_reads 84 = .ok (.iload 5, 2) := by decide +kernel
theorem dX12_reads_86 : decode cX12_reads 86 = .ok (.bipush 31, 2) := by decide +kernel
theorem dX12_reads_88 : decode cX12_reads 88 = .ok (.if_icmp .ne 13, 3) := by decide +kernel
theorem dX12_reads_106 : decode cX12_reads 106 = .ok (.iload 5, 2) := by decide +kernel
theorem dX12_reads_108 : decode cX12_reads 108 = .ok (.bipush 26, 2) := by decide +kernel
theorem dX12_reads_110 : decode cX12_reads 110 = .ok (.if_icmp .le 5, 3) := by decide +kernel
theorem dX12_reads_125 : decode cX12_reads 125 = .ok (.iload 5, 2) := by decide +kernel
theorem dX12_reads_127 : decode cX12_reads 127 = .ok (.goto 5, 3) := by decide +kernel
theorem dX12_reads_113 : decode cX12_reads 113 = .ok (.iconst (-1), 1) := by decide +kernel
theorem dX12_reads_114 : decode cX12_reads 114 = .ok (.ireturn, 1) := by decide +kernel
theorem dX12_reads_91 : decode cX12_reads 91 = .ok (.iload_n 3, 1) := by decide +kernel
theorem dX12_reads_92 : decode cX12_reads 92 = .ok (.ifCond .ne 7, 3) := by decide +kernel
theorem dX12_reads_99 : decode cX12_reads 99 = .ok (.iload_n 3, 1) := by decide +kernel
theorem dX12_reads_100 : decode cX12_reads 100 = .ok (.ireturn, 1) := by decide +kernel
theorem dX12_reads_95 : decode cX12_reads 95 = .ok (.iconst (-1), 1) := by decide +kernel
theorem dX12_reads_96 : decode cX12_reads 96 = .ok (.goto 4, 3) := by decide +kernel
theorem dX12_reads_34 : decode cX12_reads 34 = .ok (.aload_n 0, 1) := by decide +kernel
theorem dX12_reads_35 : decode cX12_reads 35 = .ok (.iload_n 1, 1) := by decide +kernel
theorem dX12_reads_36 : decode cX12_reads 36 = .ok (.iload 4, 2) := by decide +kernel
theorem dX12_reads_38 : decode cX12_reads 38 = .ok (.iload 7, 2) := by decide +kernel
theorem dX12_reads_40 : decode cX12_reads 40 = .ok (.iadd, 1) := by decide +kernel
theorem dX12_reads_41 : decode cX12_reads 41 = .ok (.invokevirtual 370, 3) := by decide +kernel
theorem dX12_reads_44 : decode cX12_reads 44 = .ok (.istore 8, 2) := by decide +kernel
theorem dX12_reads_46 : decode cX12_reads 46 = .ok (.iload 6, 2) := by decide +kernel
theorem dX12_reads_48 : decode cX12_reads 48 = .ok (.ifCond .eq 13, 3) := by decide +kernel
theorem dX12_reads_61 : decode cX12_reads 61 = .ok (.iconst 0, 1) := by decide +kernel
theorem dX12_reads_62 : decode cX12_reads 62 = .ok (.istore 6, 2) := by decide +kernel
theorem dX12_reads_64 : decode cX12_reads 64 = .ok (.iconst 2, 1) := by decide +kernel
theorem dX12_reads_65 : decode cX12_reads 65 = .ok (.iload 5, 2) := by decide +kernel
theorem dX12_reads_67 : decode cX12_reads 67 = .ok (.imul, 1) := by decide +kernel
theorem dX12_reads_68 : decode cX12_reads 68 = .ok (.iload 8, 2) := by decide +kernel
theorem dX12_reads_70 : decode cX12_reads 70 = .ok (.iadd, 1) := by decide +kernel
theorem dX12_reads_71 : decode cX12_reads 71 = .ok (.istore 5, 2) := by decide +kernel
theorem dX12_reads_73 : decode cX12_reads 73 = .ok (.iinc 7 1, 3) := by decide +kernel
theorem dX12_reads_76 : decode cX12_reads 76 = .ok (.goto (-48), 3) := by decide +kernel
theorem dX12_reads_51 : decode cX12_reads 51 = .ok (.iload 8, 2) := by decide +kernel
theorem dX12_reads_53 : decode cX12_reads 53 = .ok (.iconst 2, 1) := by decide +kernel
theorem dX12_reads_54 : decode cX12_reads 54 = .ok (.if_icmp .ge 7, 3) := by decide +kernel
theorem dX12_reads_57 : decode cX12_reads 57 = .ok (.iconst 1, 1) := by decide +kernel
theorem dX12_reads_58 : decode cX12_reads 58 = .ok (.goto 4, 3) := by decide +kernel
theorem dX12_read_0 : decode cX12_read 0 = .ok (.aload_n 0, 1) := by decide +kernel
theorem dX12_read_1 : decode cX12_read 1 = .ok (.iload_n 1, 1) := by decide +kernel
theorem dX12_read_2 : decode cX12_read 2 = .ok (.iload_n 2, 1) := by decide +kernel
theorem dX12_read_3 : decode cX12_read 3 = .ok (.invokevirtual 357, 3) := by decide +kernel
theorem dX12_read_6 : decode cX12_read 6 = .ok (.istore_n 3, 1) := by decide +kernel
theorem dX12_read_7 : decode cX12_read 7 = .ok (.iload_n 3, 1) := by decide +kernel
theorem dX12_read_8 : decode cX12_read 8 = .ok (.ifCond .ge 5, 3) := by decide +kernel
theorem dX12_read_13 : decode cX12_read 13 = .ok (.aload_n 0, 1) := by decide +kernel
theorem dX12_read_14 : decode cX12_read 14 = .ok (.iload_n 1, 1) := by decide +kernel
theorem dX12_read_15 : decode cX12_read 15 = .ok (.invokevirtual 363, 3) := by decide +kernel
theorem dX12_read_18 : decode cX12_read 18 = .ok (.aload_n 0, 1) := by decide +kernel
theorem dX12_read_19 : decode cX12_read 19 = .ok (.iload_n 2, 1) := by decide +kernel
theorem dX12_read_20 : decode cX12_read 20 = .ok (.invokevirtual 373, 3) := by decide +kernel
theorem dX12_read_23 : decode cX12_read 23 = .ok (.istore 4, 2) := by decide +kernel
theorem dX12_read_25 : decode cX12_read 25 = .ok (.iload 4, 2) := by decide +kernel
theorem dX12_read_27 : decode cX12_read 27 = .ok (.iconst (-1), 1) := by decide +kernel
theorem dX12_read_28 : decode cX12_read 28 = .ok (.if_icmp .ne 5, 3) := by decide +kernel
theorem dX12_read_33 : decode cX12_read 33 = .ok (.aload_n 0, 1) := by decide +kernel
theorem dX12_read_34 : decode cX12_read 34 = .ok (.iload 4, 2) := by decide +kernel
theorem dX12_read_36 : decode cX12_read 36 = .ok (.putfield 49, 3) := by decide +kernel
theorem dX12_read_39 : decode cX12_read 39 = .ok (.iconst 0, 1) := by decide +kernel
theorem dX12_read_40 : decode cX12_read 40 = .ok (.istore 5, 2) := by decide +kernel
theorem dX12_read_42 : decode cX12_read 42 = .ok (.iload 5, 2) := by decide +kernel
theorem dX12_read_44 : decode cX12_read 44 = .ok (.iload 4, 2) := by decide +kernel
theorem dX12_read_46 : decode cX12_read 46 = .ok (.if_icmp .ge 23, 3) := by decide +kernel
theorem dX12_read_69 : decode cX12_read 69 = .ok (.iload 4, 2) := by decide +kernel
theorem dX12_read_71 : decode cX12_read 71 = .ok (.ireturn, 1) := by decide +kernel
theorem dX12_read_49 : decode cX12_read 49 = .ok (.aload_n 0, 1) := by decide +kernel
theorem dX12_read_50 : decode cX12_read 50 = .ok (.getfield 46, 3) := by decide +kernel
theorem dX12_read_53 : decode cX12_read 53 = .ok (.iload 5, 2) := by decide +kernel
theorem dX12_read_55 : decode cX12_read 55 = .ok (.aload_n 0, 1) := by decide +kernel
theorem dX12_read_56 : decode cX12_read 56 = .ok (.getfield 52, 3) := by decide +kernel
theorem dX12_read_59 : decode cX12_read 59 = .ok (.iload 5, 2) := by decide +kernel
theorem dX12_read_61 : decode cX12_read 61 = .ok (.iaload, 1) := by decide +kernel
theorem dX12_read_62 : decode cX12_read 62 = .ok (.iastore, 1) := by decide +kernel
theorem dX12_read_63 : decode cX12_read 63 = .ok (.iinc 5 1, 3) := by decide +kernel
theorem dX12_read_66 : decode cX12_read 66 = .ok (.goto (-24), 3) := by decide +kernel
theorem dX12_read_31 : decode cX12_read 31 = .ok (.iconst (-1), 1) := by decide +kernel
theorem dX12_read_32 : decode cX12_read 32 = .ok (.ireturn, 1) := by decide +kernel
theorem dX12_read_11 : decode cX12_read 11 = .ok (.iload_n 3, 1) := by decide +kernel
theorem dX12_read_12 : decode cX12_read 12 = .ok (.ireturn, 1) := by decide +kernel
theorem dX12_letter_0 : decode cX12_letter 0 = .ok (.iload_n 1, 1) := by decide +kernel
theorem dX12_letter_1 : decode cX12_letter 1 = .ok (.i2l, 1) := by decide +kernel
theorem dX12_letter_2 : decode cX12_letter 2 = .ok (.lconst 0, 1) := by decide +kernel
theorem dX12_letter_3 : decode cX12_letter 3 = .ok (.aload_n 0, 1) := by decide +kernel
theorem dX12_letter_4 : decode cX12_letter 4 = .ok (.getfield 49, 3) := by decide +kernel
theorem dX12_letter_7 : decode cX12_letter 7 = .ok (.iconst 1, 1) := by decide +kernel
theorem dX12_letter_8 : decode cX12_letter 8 = .ok (.isub, 1) := by decide +kernel
theorem dX12_letter_9 : decode cX12_letter 9 = .ok (.i2l, 1) := by decide +kernel
theorem dX12_letter_10 : decode cX12_letter 10 = .ok (.invokestatic 79, 3) := by decide +kernel
theorem dX12_letter_13 : decode cX12_letter 13 = .ok (.ifCond .ne 5, 3) := by decide +kernel
theorem dX12_letter_18 : decode cX12_letter 18 = .ok (.aload_n 0, 1) := by decide +kernel
theorem dX12_letter_19 : decode cX12_letter 19 = .ok (.getfield 46, 3) := by decide +kernel
theorem dX12_letter_22 : decode cX12_letter 22 = .ok (.iload_n 1, 1) := by decide +kernel
theorem dX12_letter_23 : decode cX12_letter 23 = .ok (.iaload, 1) := by decide +kernel
theorem dX12_letter_24 : decode cX12_letter 24 = .ok (.bipush 99, 2) := by decide +kernel
theorem dX12_letter_26 : decode cX12_letter 26 = .ok (.if_icmp .ne 8, 3) := by decide +kernel
theorem dX12_letter_34 : decode cX12_letter 34 = .ok (.aload_n 0, 1) := by decide +kernel
theorem dX12_letter_35 : decode cX12_letter 35 = .ok (.getfield 46, 3) := by decide +kernel
theorem dX12_letter_38 : decode cX12_letter 38 = .ok (.iload_n 1, 1) := by decide +kernel
theorem dX12_letter_39 : decode cX12_letter 39 = .ok (.iaload, 1) := by decide +kernel
theorem dX12_letter_40 : decode cX12_letter 40 = .ok (.ifCond .ne 8, 3) := by decide +kernel
theorem dX12_letter_48 : decode cX12_letter 48 = .ok (.bipush 97, 2) := by decide +kernel
theorem dX12_letter_50 : decode cX12_letter 50 = .ok (.aload_n 0, 1) := by decide +kernel
theorem dX12_letter_51 : decode cX12_letter 51 = .ok (.getfield 46, 3) := by decide +kernel
theorem dX12_letter_54 : decode cX12_letter 54 = .ok (.iload_n 1, 1) := by decide +kernel
theorem dX12_letter_55 : decode cX12_letter 55 = .ok (.iaload, 1) := by decide +kernel
theorem dX12_letter_56 : decode cX12_letter 56 = .ok (.iadd, 1) := by decide +kernel
theorem dX12_letter_57 : decode cX12_letter 57 = .ok (.iconst 1, 1) := by decide +kernel
theorem dX12_letter_58 : decode cX12_letter 58 = .ok (.isub, 1) := by decide +kernel
theorem dX12_letter_59 : decode cX12_letter 59 = .ok (.ireturn, 1) := by decide +kernel
theorem dX12_letter_43 : decode cX12_letter 43 = .ok (.bipush 32, 2) := by decide +kernel
theorem dX12_letter_45 : decode cX12_letter 45 = .ok (.goto 14, 3) := by decide +kernel
theorem dX12_letter_29 : decode cX12_letter 29 = .ok (.bipush 63, 2) := by decide +kernel
theorem dX12_letter_31 : decode cX12_letter 31 = .ok (.goto 28, 3) := by decide +kernel
theorem dX12_letter_16 : decode cX12_letter 16 = .ok (.iconst (-1), 1) := by decide +kernel
theorem dX12_letter_17 : decode cX12_letter 17 = .ok (.ireturn, 1) := by decide +kernel
theorem dX12_bit_0 : decode cX12_bit 0 = .ok (.aload_n 0, 1) := by decide +kernel
theorem dX12_bit_1 : decode cX12_bit 1 = .ok (.iload_n 1, 1) := by decide +kernel
theorem dX12_bit_2 : decode cX12_bit 2 = .ok (.iload_n 2, 1) := by decide +kernel
theorem dX12_bit_3 : decode cX12_bit 3 = .ok (.invokevirtual 357, 3) := by decide +kernel
theorem dX12_bit_6 : decode cX12_bit 6 = .ok (.istore 4, 2) := by decide +kernel
theorem dX12_bit_8 : decode cX12_bit 8 = .ok (.iload 4, 2) := by decide +kernel
theorem dX12_bit_10 : decode cX12_bit 10 = .ok (.ifCond .ge 6, 3) := by decide +kernel
theorem dX12_bit_16 : decode cX12_bit 16 = .ok (.aload_n 0, 1) := by decide +kernel
theorem dX12_bit_17 : decode cX12_bit 17 = .ok (.iload_n 1, 1) := by decide +kernel
theorem dX12_bit_18 : decode cX12_bit 18 = .ok (.invokevirtual 363, 3) := by decide +kernel
theorem dX12_bit_21 : decode cX12_bit 21 = .ok (.iload_n 3, 1) := by decide +kernel
theorem dX12_bit_22 : decode cX12_bit 22 = .ok (.i2l, 1) := by decide +kernel
theorem dX12_bit_23 : decode cX12_bit 23 = .ok (.lconst 0, 1) := by decide +kernel
theorem dX12_bit_24 : decode cX12_bit 24 = .ok (.aload_n 0, 1) := by decide +kernel
theorem dX12_bit_25 : decode cX12_bit 25 = .ok (.iload_n 2, 1) := by decide +kernel
theorem dX12_bit_26 : decode cX12_bit 26 = .ok (.invokevirtual 241, 3) := by decide +kernel
theorem dX12_bit_29 : decode cX12_bit 29 = .ok (.iconst 1, 1) := by decide +kernel
theorem dX12_bit_30 : decode cX12_bit 30 = .ok (.isub, 1) := by decide +kernel
theorem dX12_bit_31 : decode cX12_bit 31 = .ok (.i2l, 1) := by decide +kernel
theorem dX12_bit_32 : decode cX12_bit 32 = .ok (.invokestatic 79, 3) := by decide +kernel
theorem dX12_bit_35 : decode cX12_bit 35 = .ok (.ifCond .eq 12, 3) := by decide +kernel
theorem dX12_bit_47 : decode cX12_bit 47 = .ok (.iconst (-1), 1) := by decide +kernel
theorem dX12_bit_48 : decode cX12_bit 48 = .ok (.ireturn, 1) := by decide +kernel
theorem dX12_bit_38 : decode cX12_bit 38 = .ok (.aload_n 0, 1) := by decide +kernel
theorem dX12_bit_39 : decode cX12_bit 39 = .ok (.iload_n 2, 1) := by decide +kernel
theorem dX12_bit_40 : decode cX12_bit 40 = .ok (.iload_n 3, 1) := by decide +kernel
theorem dX12_bit_41 : decode cX12_bit 41 = .ok (.invokevirtual 370, 3) := by decide +kernel
theorem dX12_bit_44 : decode cX12_bit 44 = .ok (.goto 4, 3) := by decide +kernel
theorem dX12_bit_13 : decode cX12_bit 13 = .ok (.iload 4, 2) := by decide +kernel
theorem dX12_bit_15 : decode cX12_bit 15 = .ok (.ireturn, 1) := by decide +kernel
theorem dX12_dim_0 : decode cX12_dim 0 = .ok (.aload_n 0, 1) := by decide +kernel
theorem dX12_dim_1 : decode cX12_dim 1 = .ok (.iload_n 1, 1) := by decide +kernel
theorem dX12_dim_2 : decode cX12_dim 2 = .ok (.iload_n 2, 1) := by decide +kernel
theorem dX12_dim_3 : decode cX12_dim 3 = .ok (.invokevirtual 357, 3) := by decide +kernel
theorem dX12_dim_6 : decode cX12_dim 6 = .ok (.istore_n 3, 1) := by decide +kernel
theorem dX12_dim_7 : decode cX12_dim 7 = .ok (.iload_n 3, 1) := by decide +kernel
theorem dX12_dim_8 : decode cX12_dim 8 = .ok (.ifCond .ge 5, 3) := by decide +kernel
theorem dX12_dim_13 : decode cX12_dim 13 = .ok (.aload_n 0, 1) := by decide +kernel
theorem dX12_dim_14 : decode cX12_dim 14 = .ok (.iload_n 1, 1) := by decide +kernel
theorem dX12_dim_15 : decode cX12_dim 15 = .ok (.invokevirtual 363, 3) := by decide +kernel
theorem dX12_dim_18 : decode cX12_dim 18 = .ok (.aload_n 0, 1) := by decide +kernel
theorem dX12_dim_19 : decode cX12_dim 19 = .ok (.iload_n 2, 1) := by decide +kernel
theorem dX12_dim_20 : decode cX12_dim 20 = .ok (.invokevirtual 241, 3) := by decide +kernel
theorem dX12_dim_23 : decode cX12_dim 23 = .ok (.istore 4, 2) := by decide +kernel
theorem dX12_dim_25 : decode cX12_dim 25 = .ok (.iconst 0, 1) := by decide +kernel
theorem dX12_dim_26 : decode cX12_dim 26 = .ok (.istore 5, 2) := by decide +kernel
theorem dX12_dim_28 : decode cX12_dim 28 = .ok (.iconst 0, 1) := by decide +kernel
theorem dX12_dim_29 : decode cX12_dim 29 = .ok (.istore 6, 2) := by decide +kernel
theorem dX12_dim_31 : decode cX12_dim 31 = .ok (.iload 6, 2) := by decide +kernel
theorem dX12_dim_33 : decode cX12_dim 33 = .ok (.iload 4, 2) := by decide +kernel
theorem dX12_dim_35 : decode cX12_dim 35 = .ok (.if_icmp .ge 30, 3) := by decide +kernel
theorem dX12_dim_65 : decode cX12_dim 65 = .ok (.iload 5, 2) := by decide +kernel
theorem dX12_dim_67 : decode cX12_dim 67 = .ok (.ireturn, 1) := by decide +kernel
theorem dX12_dim_38 : decode cX12_dim 38 = .ok (.iload 5, 2) := by decide +kernel
theorem dX12_dim_40 : decode cX12_dim 40 = .ok (.aload_n 0, 1) := by decide +kernel
theorem dX12_dim_41 : decode cX12_dim 41 = .ok (.iload_n 2, 1) := by decide +kernel
theorem dX12_dim_42 : decode cX12_dim 42 = .ok (.iload 6, 2) := by decide +kernel
theorem dX12_dim_44 : decode cX12_dim 44 = .ok (.invokevirtual 370, 3) := by decide +kernel
theorem dX12_dim_47 : decode cX12_dim 47 = .ok (.iconst 2, 1) := by decide +kernel
theorem dX12_dim_48 : decode cX12_dim 48 = .ok (.if_icmp .ne 7, 3) := by decide +kernel
theorem dX12_dim_55 : decode cX12_dim 55 = .ok (.iconst 0, 1) := by decide +kernel
theorem dX12_dim_56 : decode cX12_dim 56 = .ok (.iadd, 1) := by decide +kernel
theorem dX12_dim_57 : decode cX12_dim 57 = .ok (.istore 5, 2) := by decide +kernel
theorem dX12_dim_59 : decode cX12_dim 59 = .ok (.iinc 6 1, 3) := by decide +kernel
theorem dX12_dim_62 : decode cX12_dim 62 = .ok (.goto (-31), 3) := by decide +kernel
theorem dX12_dim_51 : decode cX12_dim 51 = .ok (.iconst 1, 1) := by decide +kernel
theorem dX12_dim_52 : decode cX12_dim 52 = .ok (.goto 4, 3) := by decide +kernel
theorem dX12_dim_11 : decode cX12_dim 11 = .ok (.iload_n 3, 1) := by decide +kernel
theorem dX12_dim_12 : decode cX12_dim 12 = .ok (.ireturn, 1) := by decide +kernel
theorem dX12_says_0 : decode cX12_says 0 = .ok (.aload_n 0, 1) := by decide +kernel
theorem dX12_says_1 : decode cX12_says 1 = .ok (.iload_n 1, 1) := by decide +kernel
theorem dX12_says_2 : decode cX12_says 2 = .ok (.invokevirtual 376, 3) := by decide +kernel
theorem dX12_says_5 : decode cX12_says 5 = .ok (.istore_n 2, 1) := by decide +kernel
theorem dX12_says_6 : decode cX12_says 6 = .ok (.iload_n 2, 1) := by decide +kernel
theorem dX12_says_7 : decode cX12_says 7 = .ok (.ifCond .ge 5, 3) := by decide +kernel
theorem dX12_says_12 : decode cX12_says 12 = .ok (.aload_n 0, 1) := by decide +kernel
theorem dX12_says_13 : decode cX12_says 13 = .ok (.iload_n 1, 1) := by decide +kernel
theorem dX12_says_14 : decode cX12_says 14 = .ok (.invokevirtual 363, 3) := by decide +kernel
theorem dX12_says_17 : decode cX12_says 17 = .ok (.iconst 0, 1) := by decide +kernel
theorem dX12_says_18 : decode cX12_says 18 = .ok (.istore_n 3, 1) := by decide +kernel
theorem dX12_says_19 : decode cX12_says 19 = .ok (.iconst 0, 1) := by decide +kernel
theorem dX12_says_20 : decode cX12_says 20 = .ok (.istore 4, 2) := by decide +kernel
theorem dX12_says_22 : decode cX12_says 22 = .ok (.iload 4, 2) := by decide +kernel
theorem dX12_says_24 : decode cX12_says 24 = .ok (.bipush 6, 2) := by decide +kernel
theorem dX12_says_26 : decode cX12_says 26 = .ok (.if_icmp .ge 39, 3) := by decide +kernel
theorem dX12_says_65 : decode cX12_says 65 = .ok (.iload_n 3, 1) := by decide +kernel
theorem dX12_says_66 : decode cX12_says 66 = .ok (.ireturn, 1) := by decide +kernel
theorem dX12_says_29 : decode cX12_says 29 = .ok (.iload_n 3, 1) := by decide +kernel
theorem dX12_says_30 : decode cX12_says 30 = .ok (.aload_n 0, 1) := by decide +kernel
theorem dX12_says_31 : decode cX12_says 31 = .ok (.iload 4, 2) := by decide +kernel
theorem dX12_says_33 : decode cX12_says 33 = .ok (.invokevirtual 354, 3) := by decide +kernel
theorem dX12_says_36 : decode cX12_says 36 = .ok (.ifCond .eq 20, 3) := by decide +kernel
theorem dX12_says_56 : decode cX12_says 56 = .ok (.iconst 0, 1) := by decide +kernel
theorem dX12_says_57 : decode cX12_says 57 = .ok (.ior, 1) := by decide +kernel
theorem dX12_says_58 : decode cX12_says 58 = .ok (.istore_n 3, 1) := by decide +kernel
theorem dX12_says_59 : decode cX12_says 59 = .ok (.iinc 4 1, 3) := by decide +kernel
theorem dX12_says_62 : decode cX12_says 62 = .ok (.goto (-40), 3) := by decide +kernel
theorem dX12_says_39 : decode cX12_says 39 = .ok (.aload_n 0, 1) := by decide +kernel
theorem dX12_says_40 : decode cX12_says 40 = .ok (.iload 4, 2) := by decide +kernel
theorem dX12_says_42 : decode cX12_says 42 = .ok (.invokevirtual 373, 3) := by decide +kernel
theorem dX12_says_45 : decode cX12_says 45 = .ok (.iconst (-1), 1) := by decide +kernel
theorem dX12_says_46 : decode cX12_says 46 = .ok (.if_icmp .eq 10, 3) := by decide +kernel
theorem dX12_says_49 : decode cX12_says 49 = .ok (.iconst 1, 1) := by decide +kernel
theorem dX12_says_50 : decode cX12_says 50 = .ok (.iload 4, 2) := by decide +kernel
theorem dX12_says_52 : decode cX12_says 52 = .ok (.ishl, 1) := by decide +kernel
theorem dX12_says_53 : decode cX12_says 53 = .ok (.goto 4, 3) := by decide +kernel
theorem dX12_says_10 : decode cX12_says 10 = .ok (.iload_n 2, 1) := by decide +kernel
theorem dX12_says_11 : decode cX12_says 11 = .ok (.ireturn, 1) := by decide +kernel
theorem dX12_at_0 : decode cX12_at 0 = .ok (.iload_n 1, 1) := by decide +kernel
theorem dX12_at_1 : decode cX12_at 1 = .ok (.invokestatic 319, 3) := by decide +kernel
theorem dX12_at_4 : decode cX12_at 4 = .ok (.ifCond .eq 36, 3) := by decide +kernel
theorem dX12_at_40 : decode cX12_at 40 = .ok (.iconst (-1), 1) := by decide +kernel
theorem dX12_at_41 : decode cX12_at 41 = .ok (.ireturn, 1) := by decide +kernel
theorem dX12_at_7 : decode cX12_at 7 = .ok (.aload_n 0, 1) := by decide +kernel
theorem dX12_at_8 : decode cX12_at 8 = .ok (.iload_n 1, 1) := by decide +kernel
theorem dX12_at_9 : decode cX12_at 9 = .ok (.invokevirtual 351, 3) := by decide +kernel
theorem dX12_at_12 : decode cX12_at 12 = .ok (.ifCond .eq 28, 3) := by decide +kernel
theorem dX12_at_15 : decode cX12_at 15 = .ok (.aload_n 0, 1) := by decide +kernel
theorem dX12_at_16 : decode cX12_at 16 = .ok (.iload_n 2, 1) := by decide +kernel
theorem dX12_at_17 : decode cX12_at 17 = .ok (.iload_n 3, 1) := by decide +kernel
theorem dX12_at_18 : decode cX12_at 18 = .ok (.invokevirtual 379, 3) := by decide +kernel
theorem dX12_at_21 : decode cX12_at 21 = .ok (.ifCond .eq 19, 3) := by decide +kernel
theorem dX12_at_24 : decode cX12_at 24 = .ok (.aload_n 0, 1) := by decide +kernel
theorem dX12_at_25 : decode cX12_at 25 = .ok (.iload_n 1, 1) := by decide +kernel
theorem dX12_at_26 : decode cX12_at 26 = .ok (.iload_n 2, 1) := by decide +kernel
theorem dX12_at_27 : decode cX12_at 27 = .ok (.aload_n 0, 1) := by decide +kernel
theorem dX12_at_28 : decode cX12_at 28 = .ok (.invokevirtual 87, 3) := by decide +kernel
theorem dX12_at_31 : decode cX12_at 31 = .ok (.imul, 1) := by decide +kernel
theorem dX12_at_32 : decode cX12_at 32 = .ok (.iload_n 3, 1) := by decide +kernel
theorem dX12_at_33 : decode cX12_at 33 = .ok (.iadd, 1) := by decide +kernel
theorem dX12_at_34 : decode cX12_at 34 = .ok (.invokevirtual 301, 3) := by decide +kernel
theorem dX12_at_37 : decode cX12_at 37 = .ok (.goto 4, 3) := by decide +kernel
theorem dX12_sort_0 : decode cX12_sort 0 = .ok (.aload_n 0, 1) := by decide +kernel
theorem dX12_sort_1 : decode cX12_sort 1 = .ok (.iload_n 1, 1) := by decide +kernel
theorem dX12_sort_2 : decode cX12_sort 2 = .ok (.iload_n 2, 1) := by decide +kernel
theorem dX12_sort_3 : decode cX12_sort 3 = .ok (.invokevirtual 379, 3) := by decide +kernel
theorem dX12_sort_6 : decode cX12_sort 6 = .ok (.ifCond .eq 18, 3) := by decide +kernel
theorem dX12_sort_24 : decode cX12_sort 24 = .ok (.iconst (-1), 1) := by decide +kernel
theorem dX12_sort_25 : decode cX12_sort 25 = .ok (.ireturn, 1) := by decide +kernel
theorem dX12_sort_9 : decode cX12_sort 9 = .ok (.aload_n 0, 1) := by decide +kernel
theorem dX12_sort_10 : decode cX12_sort 10 = .ok (.iload_n 1, 1) := by decide +kernel
theorem dX12_sort_11 : decode cX12_sort 11 = .ok (.aload_n 0, 1) := by decide +kernel
theorem dX12_sort_12 : decode cX12_sort 12 = .ok (.invokevirtual 87, 3) := by decide +kernel
theorem dX12_sort_15 : decode cX12_sort 15 = .ok (.imul, 1) := by decide +kernel
theorem dX12_sort_16 : decode cX12_sort 16 = .ok (.iload_n 2, 1) := by decide +kernel
theorem dX12_sort_17 : decode cX12_sort 17 = .ok (.iadd, 1) := by decide +kernel
theorem dX12_sort_18 : decode cX12_sort 18 = .ok (.invokevirtual 98, 3) := by decide +kernel
theorem dX12_sort_21 : decode cX12_sort 21 = .ok (.goto 4, 3) := by decide +kernel
theorem dX12_place_0 : decode cX12_place 0 = .ok (.aload_n 0, 1) := by decide +kernel
theorem dX12_place_1 : decode cX12_place 1 = .ok (.iload_n 1, 1) := by decide +kernel
theorem dX12_place_2 : decode cX12_place 2 = .ok (.invokevirtual 383, 3) := by decide +kernel
theorem dX12_place_5 : decode cX12_place 5 = .ok (.istore_n 3, 1) := by decide +kernel
theorem dX12_place_6 : decode cX12_place 6 = .ok (.iload_n 3, 1) := by decide +kernel
theorem dX12_place_7 : decode cX12_place 7 = .ok (.ifCond .ge 5, 3) := by decide +kernel
theorem dX12_place_12 : decode cX12_place 12 = .ok (.aload_n 0, 1) := by decide +kernel
theorem dX12_place_13 : decode cX12_place 13 = .ok (.iload_n 1, 1) := by decide +kernel
theorem dX12_place_14 : decode cX12_place 14 = .ok (.invokevirtual 338, 3) := by decide +kernel
theorem dX12_place_17 : decode cX12_place 17 = .ok (.iload_n 2, 1) := by decide +kernel
theorem dX12_place_18 : decode cX12_place 18 = .ok (.i2l, 1) := by decide +kernel
theorem dX12_place_19 : decode cX12_place 19 = .ok (.lconst 0, 1) := by decide +kernel
theorem dX12_place_20 : decode cX12_place 20 = .ok (.aload_n 0, 1) := by decide +kernel
theorem dX12_place_21 : decode cX12_place 21 = .ok (.getfield 335, 3) := by decide +kernel
theorem dX12_place_24 : decode cX12_place 24 = .ok (.iconst 1, 1) := by decide +kernel
theorem dX12_place_25 : decode cX12_place 25 = .ok (.isub, 1) := by decide +kernel
theorem dX12_place_26 : decode cX12_place 26 = .ok (.i2l, 1) := by decide +kernel
theorem dX12_place_27 : decode cX12_place 27 = .ok (.invokestatic 79, 3) := by decide +kernel
theorem dX12_place_30 : decode cX12_place 30 = .ok (.ifCond .eq 32, 3) := by decide +kernel
theorem dX12_place_62 : decode cX12_place 62 = .ok (.iconst (-1), 1) := by decide +kernel
theorem dX12_place_63 : decode cX12_place 63 = .ok (.ireturn, 1) := by decide +kernel
theorem dX12_place_33 : decode cX12_place 33 = .ok (.bipush 100, 2) := by decide +kernel
theorem dX12_place_35 : decode cX12_place 35 = .ok (.aload_n 0, 1) := by decide +kernel
theorem dX12_place_36 : decode cX12_place 36 = .ok (.getfield 40, 3) := by decide +kernel
theorem dX12_place_39 : decode cX12_place 39 = .ok (.iload_n 2, 1) := by decide +kernel
theorem dX12_place_40 : decode cX12_place 40 = .ok (.iaload, 1) := by decide +kernel
theorem dX12_place_41 : decode cX12_place 41 = .ok (.aload_n 0, 1) := by decide +kernel
theorem dX12_place_42 : decode cX12_place 42 = .ok (.invokevirtual 87, 3) := by decide +kernel
theorem dX12_place_45 : decode cX12_place 45 = .ok (.idiv, 1) := by decide +kernel
theorem dX12_place_46 : decode cX12_place 46 = .ok (.imul, 1) := by decide +kernel
