theorem dX12_readPart_0 : decode cX12_readPart 0 = .ok (.aload_n 0, 1) := by decide +kernel
theorem dX12_readPart_1 : decode cX12_readPart 1 = .ok (.ldc 244, 2) := by decide +kernel
theorem dX12_readPart_3 : decode cX12_readPart 3 = .ok (.invokevirtual 152, 3) := by decide +kernel
theorem dX12_readPart_110 : decode cX12_readPart 110 = .ok (.istore_n 2, 1) := by decide +kernel
theorem dX12_readPart_111 : decode cX12_readPart 111 = .ok (.aload_n 0, 1) := by decide +kernel
theorem dX12_readPart_112 : decode cX12_readPart 112 = .ok (.invokevirtual 139, 3) := by decide +kernel
theorem dX12_readPart_115 : decode cX12_readPart 115 = .ok (.ifCond .eq 13, 3) := by decide +kernel
theorem dX12_readPart_128 : decode cX12_readPart 128 = .ok (.iload_n 2, 1) := by decide +kernel
theorem dX12_readPart_129 : decode cX12_readPart 129 = .ok (.bipush 8, 2) := by decide +kernel
theorem dX12_readPart_131 : decode cX12_readPart 131 = .ok (.if_icmp .ne 14, 3) := by decide +kernel
theorem dX12_readPart_145 : decode cX12_readPart 145 = .ok (.iconst 0, 1) := by decide +kernel
theorem dX12_readPart_146 : decode cX12_readPart 146 = .ok (.istore_n 3, 1) := by decide +kernel
theorem dX12_readPart_147 : decode cX12_readPart 147 = .ok (.aload_n 0, 1) := by decide +kernel
theorem dX12_readPart_148 : decode cX12_readPart 148 = .ok (.invokevirtual 139, 3) := by decide +kernel
theorem dX12_readPart_151 : decode cX12_readPart 151 = .ok (.ifCond .ne 4, 3) := by decide +kernel
theorem dX12_readPart_154 : decode cX12_readPart 154 = .ok (.return_, 1) := by decide +kernel
theorem dX12_readPart_134 : decode cX12_readPart 134 = .ok (.aload_n 0, 1) := by decide +kernel
theorem dX12_readPart_135 : decode cX12_readPart 135 = .ok (.iconst 0, 1) := by decide +kernel
theorem dX12_readPart_136 : decode cX12_readPart 136 = .ok (.sipush 999, 3) := by decide +kernel
theorem dX12_readPart_139 : decode cX12_readPart 139 = .ok (.invokevirtual 170, 3) := by decide +kernel
theorem dX12_readPart_142 : decode cX12_readPart 142 = .ok (.goto 4, 3) := by decide +kernel
theorem dX12_readPart_118 : decode cX12_readPart 118 = .ok (.iload_n 2, 1) := by decide +kernel
theorem dX12_readPart_119 : decode cX12_readPart 119 = .ok (.bipush 8, 2) := by decide +kernel
theorem dX12_readPart_121 : decode cX12_readPart 121 = .ok (.if_icmp .ge 7, 3) := by decide +kernel
theorem dX12_readPart_155 : decode cX12_readPart 155 = .ok (.sipush 562, 3) := by decide +kernel
theorem dX12_readPart_158 : decode cX12_readPart 158 = .ok (.iconst 3, 1) := by decide +kernel
theorem dX12_readPart_159 : decode cX12_readPart 159 = .ok (.aload_n 0, 1) := by decide +kernel
theorem dX12_readPart_160 : decode cX12_readPart 160 = .ok (.getfield 34, 3) := by decide +kernel
theorem dX12_readPart_163 : decode cX12_readPart 163 = .ok (.iconst 5, 1) := by decide +kernel
theorem dX12_readPart_164 : decode cX12_readPart 164 = .ok (.iaload, 1) := by decide +kernel
theorem dX12_readPart_165 : decode cX12_readPart 165 = .ok (.imul, 1) := by decide +kernel
theorem dX12_readPart_166 : decode cX12_readPart 166 = .ok (.iadd, 1) := by decide +kernel
theorem dX12_readPart_167 : decode cX12_readPart 167 = .ok (.istore 4, 2) := by decide +kernel
theorem dX12_readPart_169 : decode cX12_readPart 169 = .ok (.aload_n 0, 1) := by decide +kernel
theorem dX12_readPart_170 : decode cX12_readPart 170 = .ok (.getfield 34, 3) := by decide +kernel
theorem dX12_readPart_173 : decode cX12_readPart 173 = .ok (.iload 4, 2) := by decide +kernel
theorem dX12_readPart_175 : decode cX12_readPart 175 = .ok (.iload_n 1, 1) := by decide +kernel
theorem dX12_readPart_176 : decode cX12_readPart 176 = .ok (.iastore, 1) := by decide +kernel
theorem dX12_readPart_177 : decode cX12_readPart 177 = .ok (.aload_n 0, 1) := by decide +kernel
theorem dX12_readPart_178 : decode cX12_readPart 178 = .ok (.getfield 34, 3) := by decide +kernel
theorem dX12_readPart_181 : decode cX12_readPart 181 = .ok (.iload 4, 2) := by decide +kernel
theorem dX12_readPart_183 : decode cX12_readPart 183 = .ok (.iconst 1, 1) := by decide +kernel
theorem dX12_readPart_184 : decode cX12_readPart 184 = .ok (.iadd, 1) := by decide +kernel
theorem dX12_readPart_185 : decode cX12_readPart 185 = .ok (.iload_n 2, 1) := by decide +kernel
theorem dX12_readPart_186 : decode cX12_readPart 186 = .ok (.iastore, 1) := by decide +kernel
theorem dX12_readPart_187 : decode cX12_readPart 187 = .ok (.aload_n 0, 1) := by decide +kernel
theorem dX12_readPart_188 : decode cX12_readPart 188 = .ok (.getfield 34, 3) := by decide +kernel
theorem dX12_readPart_191 : decode cX12_readPart 191 = .ok (.iload 4, 2) := by decide +kernel
theorem dX12_readPart_193 : decode cX12_readPart 193 = .ok (.iconst 2, 1) := by decide +kernel
theorem dX12_readPart_194 : decode cX12_readPart 194 = .ok (.iadd, 1) := by decide +kernel
theorem dX12_readPart_195 : decode cX12_readPart 195 = .ok (.iload_n 3, 1) := by decide +kernel
theorem dX12_readPart_196 : decode cX12_readPart 196 = .ok (.iastore, 1) := by decide +kernel
theorem dX12_readPart_197 : decode cX12_readPart 197 = .ok (.aload_n 0, 1) := by decide +kernel
theorem dX12_readPart_198 : decode cX12_readPart 198 = .ok (.getfield 34, 3) := by decide +kernel
theorem dX12_readPart_201 : decode cX12_readPart 201 = .ok (.iconst 5, 1) := by decide +kernel
theorem dX12_readPart_202 : decode cX12_readPart 202 = .ok (.dup2, 1) := by decide +kernel
theorem dX12_readPart_203 : decode cX12_readPart 203 = .ok (.iaload, 1) := by decide +kernel
theorem dX12_readPart_204 : decode cX12_readPart 204 = .ok (.iconst 1, 1) := by decide +kernel
theorem dX12_readPart_205 : decode cX12_readPart 205 = .ok (.iadd, 1) := by decide +kernel
theorem dX12_readPart_206 : decode cX12_readPart 206 = .ok (.iastore, 1) := by decide +kernel
theorem dX12_readPart_207 : decode cX12_readPart 207 = .ok (.return_, 1) := by decide +kernel
theorem dX12_readPart_124 : decode cX12_readPart 124 = .ok (.aload_n 0, 1) := by decide +kernel
theorem dX12_readPart_125 : decode cX12_readPart 125 = .ok (.invokevirtual 156, 3) := by decide +kernel
theorem dX12_readPart_6 : decode cX12_readPart 6 = .ok (.ifCond .eq 7, 3) := by decide +kernel
theorem dX12_readPart_13 : decode cX12_readPart 13 = .ok (.aload_n 0, 1) := by decide +kernel
theorem dX12_readPart_14 : decode cX12_readPart 14 = .ok (.ldc 246, 2) := by decide +kernel
theorem dX12_readPart_16 : decode cX12_readPart 16 = .ok (.invokevirtual 152, 3) := by decide +kernel
theorem dX12_readPart_19 : decode cX12_readPart 19 = .ok (.ifCond .eq 7, 3) := by decide +kernel
theorem dX12_readPart_26 : decode cX12_readPart 26 = .ok (.aload_n 0, 1) := by decide +kernel
theorem dX12_readPart_27 : decode cX12_readPart 27 = .ok (.ldc 248, 2) := by decide +kernel
theorem dX12_readPart_29 : decode cX12_readPart 29 = .ok (.invokevirtual 152, 3) := by decide +kernel
theorem dX12_readPart_32 : decode cX12_readPart 32 = .ok (.ifCond .eq 7, 3) := by decide +kernel
theorem dX12_readPart_39 : decode cX12_readPart 39 = .ok (.aload_n 0, 1) := by decide +kernel
theorem dX12_readPart_40 : decode cX12_readPart 40 = .ok (.ldc 250, 2) := by decide +kernel
theorem dX12_readPart_42 : decode cX12_readPart 42 = .ok (.invokevirtual 152, 3) := by decide +kernel
theorem dX12_readPart_45 : decode cX12_readPart 45 = .ok (.ifCond .eq 7, 3) := by decide +kernel
theorem dX12_readPart_52 : decode cX12_readPart 52 = .ok (.aload_n 0, 1) := by decide +kernel
theorem dX12_readPart_53 : decode cX12_readPart 53 = .ok (.ldc 252, 2) := by decide +kernel
theorem dX12_readPart_55 : decode cX12_readPart 55 = .ok (.invokevirtual 152, 3) := by decide +kernel
theorem dX12_readPart_58 : decode cX12_readPart 58 = .ok (.ifCond .eq 7, 3) := by decide +kernel
theorem dX12_readPart_65 : decode cX12_readPart 65 = .ok (.aload_n 0, 1) := by decide +kernel
theorem dX12_readPart_66 : decode cX12_readPart 66 = .ok (.ldc 254, 2) := by decide +kernel
theorem dX12_readPart_68 : decode cX12_readPart 68 = .ok (.invokevirtual 152, 3) := by decide +kernel
theorem dX12_readPart_71 : decode cX12_readPart 71 = .ok (.ifCond .eq 7, 3) := by decide +kernel
theorem dX12_readPart_78 : decode cX12_readPart 78 = .ok (.aload_n 0, 1) := by decide +kernel
theorem dX12_readPart_79 : decode cX12_readPart 79 = .ok (.ldc_w 256, 3) := by decide +kernel
theorem dX12_readPart_82 : decode cX12_readPart 82 = .ok (.invokevirtual 152, 3) := by decide +kernel
theorem dX12_readPart_85 : decode cX12_readPart 85 = .ok (.ifCond .eq 8, 3) := by decide +kernel
theorem dX12_readPart_93 : decode cX12_readPart 93 = .ok (.aload_n 0, 1) := by decide +kernel
theorem dX12_readPart_94 : decode cX12_readPart 94 = .ok (.ldc_w 258, 3) := by decide +kernel
theorem dX12_readPart_97 : decode cX12_readPart 97 = .ok (.invokevirtual 152, 3) := by decide +kernel
theorem dX12_readPart_100 : decode cX12_readPart 100 = .ok (.ifCond .eq 8, 3) := by decide +kernel
theorem dX12_readPart_108 : decode cX12_readPart 108 = .ok (.bipush 8, 2) := by decide +kernel
theorem dX12_readPart_103 : decode cX12_readPart 103 = .ok (.bipush 7, 2) := by decide +kernel
theorem dX12_readPart_105 : decode cX12_readPart 105 = .ok (.goto 5, 3) := by decide +kernel
theorem dX12_readPart_88 : decode cX12_readPart 88 = .ok (.bipush 6, 2) := by decide +kernel
theorem dX12_readPart_90 : decode cX12_readPart 90 = .ok (.goto 20, 3) := by decide +kernel
theorem dX12_readPart_74 : decode cX12_readPart 74 = .ok (.iconst 5, 1) := by decide +kernel
theorem dX12_readPart_75 : decode cX12_readPart 75 = .ok (.goto 35, 3) := by decide +kernel
theorem dX12_readPart_61 : decode cX12_readPart 61 = .ok (.iconst 4, 1) := by decide +kernel
theorem dX12_readPart_62 : decode cX12_readPart 62 = .ok (.goto 48, 3) := by decide +kernel
theorem dX12_readPart_48 : decode cX12_readPart 48 = .ok (.iconst 3, 1) := by decide +kernel
theorem dX12_readPart_49 : decode cX12_readPart 49 = .ok (.goto 61, 3) := by decide +kernel
theorem dX12_readPart_35 : decode cX12_readPart 35 = .ok (.iconst 2, 1) := by decide +kernel
theorem dX12_readPart_36 : decode cX12_readPart 36 = .ok (.goto 74, 3) := by decide +kernel
theorem dX12_readPart_22 : decode cX12_readPart 22 = .ok (.iconst 1, 1) := by decide +kernel
theorem dX12_readPart_23 : decode cX12_readPart 23 = .ok (.goto 87, 3) := by decide +kernel
theorem dX12_readPart_9 : decode cX12_readPart 9 = .ok (.iconst 0, 1) := by decide +kernel
theorem dX12_readPart_10 : decode cX12_readPart 10 = .ok (.goto 100, 3) := by decide +kernel
theorem dX12_readSum_0 : decode cX12_readSum 0 = .ok (.aload_n 0, 1) := by decide +kernel
theorem dX12_readSum_1 : decode cX12_readSum 1 = .ok (.iload_n 1, 1) := by decide +kernel
theorem dX12_readSum_2 : decode cX12_readSum 2 = .ok (.invokevirtual 260, 3) := by decide +kernel
theorem dX12_readSum_5 : decode cX12_readSum 5 = .ok (.aload_n 0, 1) := by decide +kernel
theorem dX12_readSum_6 : decode cX12_readSum 6 = .ok (.ldc_w 263, 3) := by decide +kernel
theorem dX12_readSum_9 : decode cX12_readSum 9 = .ok (.invokevirtual 152, 3) := by decide +kernel
theorem dX12_readSum_12 : decode cX12_readSum 12 = .ok (.ifCond .ne 23, 3) := by decide +kernel
theorem dX12_readSum_35 : decode cX12_readSum 35 = .ok (.aload_n 0, 1) := by decide +kernel
theorem dX12_readSum_36 : decode cX12_readSum 36 = .ok (.ldc_w 263, 3) := by decide +kernel
theorem dX12_readSum_39 : decode cX12_readSum 39 = .ok (.invokevirtual 152, 3) := by decide +kernel
theorem dX12_readSum_42 : decode cX12_readSum 42 = .ok (.ifCond .eq 7, 3) := by decide +kernel
theorem dX12_readSum_45 : decode cX12_readSum 45 = .ok (.iconst 1, 1) := by decide +kernel
theorem dX12_readSum_46 : decode cX12_readSum 46 = .ok (.goto 18, 3) := by decide +kernel
theorem dX12_readSum_64 : decode cX12_readSum 64 = .ok (.istore_n 2, 1) := by decide +kernel
theorem dX12_readSum_65 : decode cX12_readSum 65 = .ok (.aload_n 0, 1) := by decide +kernel
theorem dX12_readSum_66 : decode cX12_readSum 66 = .ok (.invokevirtual 156, 3) := by decide +kernel
theorem dX12_readSum_69 : decode cX12_readSum 69 = .ok (.aload_n 0, 1) := by decide +kernel
theorem dX12_readSum_70 : decode cX12_readSum 70 = .ok (.iload_n 2, 1) := by decide +kernel
theorem dX12_readSum_71 : decode cX12_readSum 71 = .ok (.invokevirtual 260, 3) := by decide +kernel
theorem dX12_readSum_74 : decode cX12_readSum 74 = .ok (.goto (-69), 3) := by decide +kernel
theorem dX12_readSum_15 : decode cX12_readSum 15 = .ok (.aload_n 0, 1) := by decide +kernel
theorem dX12_readSum_16 : decode cX12_readSum 16 = .ok (.ldc_w 265, 3) := by decide +kernel
theorem dX12_readSum_19 : decode cX12_readSum 19 = .ok (.invokevirtual 152, 3) := by decide +kernel
theorem dX12_readSum_22 : decode cX12_readSum 22 = .ok (.ifCond .ne 13, 3) := by decide +kernel
theorem dX12_readSum_49 : decode cX12_readSum 49 = .ok (.aload_n 0, 1) := by decide +kernel
theorem dX12_readSum_50 : decode cX12_readSum 50 = .ok (.ldc_w 265, 3) := by decide +kernel
theorem dX12_readSum_53 : decode cX12_readSum 53 = .ok (.invokevirtual 152, 3) := by decide +kernel
theorem dX12_readSum_56 : decode cX12_readSum 56 = .ok (.ifCond .eq 7, 3) := by decide +kernel
theorem dX12_readSum_59 : decode cX12_readSum 59 = .ok (.iconst 2, 1) := by decide +kernel
theorem dX12_readSum_60 : decode cX12_readSum 60 = .ok (.goto 4, 3) := by decide +kernel
theorem dX12_readSum_25 : decode cX12_readSum 25 = .ok (.aload_n 0, 1) := by decide +kernel
theorem dX12_readSum_26 : decode cX12_readSum 26 = .ok (.ldc_w 267, 3) := by decide +kernel
theorem dX12_readSum_29 : decode cX12_readSum 29 = .ok (.invokevirtual 152, 3) := by decide +kernel
theorem dX12_readSum_32 : decode cX12_readSum 32 = .ok (.ifCond .eq 45, 3) := by decide +kernel
theorem dX12_readSum_77 : decode cX12_readSum 77 = .ok (.return_, 1) := by decide +kernel
theorem dX12_readSum_63 : decode cX12_readSum 63 = .ok (.iconst 3, 1) := by decide +kernel
theorem dX12_readTest_0 : decode cX12_readTest 0 = .ok (.aload_n 0, 1) := by decide +kernel
theorem dX12_readTest_1 : decode cX12_readTest 1 = .ok (.getfield 34, 3) := by decide +kernel
theorem dX12_readTest_4 : decode cX12_readTest 4 = .ok (.iconst 5, 1) := by decide +kernel
theorem dX12_readTest_5 : decode cX12_readTest 5 = .ok (.iaload, 1) := by decide +kernel
theorem dX12_readTest_6 : decode cX12_readTest 6 = .ok (.istore_n 1, 1) := by decide +kernel
theorem dX12_readTest_7 : decode cX12_readTest 7 = .ok (.aload_n 0, 1) := by decide +kernel
theorem dX12_readTest_8 : decode cX12_readTest 8 = .ok (.iconst 0, 1) := by decide +kernel
theorem dX12_readTest_9 : decode cX12_readTest 9 = .ok (.invokevirtual 269, 3) := by decide +kernel
theorem dX12_readTest_12 : decode cX12_readTest 12 = .ok (.aload_n 0, 1) := by decide +kernel
theorem dX12_readTest_13 : decode cX12_readTest 13 = .ok (.ldc_w 272, 3) := by decide +kernel
theorem dX12_readTest_16 : decode cX12_readTest 16 = .ok (.invokevirtual 152, 3) := by decide +kernel
theorem dX12_readTest_19 : decode cX12_readTest 19 = .ok (.ifCond .eq 7, 3) := by decide +kernel
theorem dX12_readTest_26 : decode cX12_readTest 26 = .ok (.aload_n 0, 1) := by decide +kernel
theorem dX12_readTest_27 : decode cX12_readTest 27 = .ok (.ldc_w 274, 3) := by decide +kernel
theorem dX12_readTest_30 : decode cX12_readTest 30 = .ok (.invokevirtual 152, 3) := by decide +kernel
theorem dX12_readTest_33 : decode cX12_readTest 33 = .ok (.ifCond .eq 7, 3) := by decide +kernel
theorem dX12_readTest_40 : decode cX12_readTest 40 = .ok (.aload_n 0, 1) := by decide +kernel
theorem dX12_readTest_41 : decode cX12_readTest 41 = .ok (.ldc_w 276, 3) := by decide +kernel
theorem dX12_readTest_44 : decode cX12_readTest 44 = .ok (.invokevirtual 152, 3) := by decide +kernel
theorem dX12_readTest_47 : decode cX12_readTest 47 = .ok (.ifCond .eq 7, 3) := by decide +kernel
theorem dX12_readTest_54 : decode cX12_readTest 54 = .ok (.iconst (-1), 1) := by decide +kernel
theorem dX12_readTest_55 : decode cX12_readTest 55 = .ok (.istore_n 2, 1) := by decide +kernel
theorem dX12_readTest_56 : decode cX12_readTest 56 = .ok (.iload_n 2, 1) := by decide +kernel
theorem dX12_readTest_57 : decode cX12_readTest 57 = .ok (.iconst (-1), 1) := by decide +kernel
theorem dX12_readTest_58 : decode cX12_readTest 58 = .ok (.if_icmp .ne 8, 3) := by decide +kernel
theorem dX12_readTest_61 : decode cX12_readTest 61 = .ok (.aload_n 0, 1) := by decide +kernel
theorem dX12_readTest_62 : decode cX12_readTest 62 = .ok (.iconst 1, 1) := by decide +kernel
theorem dX12_readTest_63 : decode cX12_readTest 63 = .ok (.invokevirtual 162, 3) := by decide +kernel
theorem dX12_readTest_66 : decode cX12_readTest 66 = .ok (.aload_n 0, 1) := by decide +kernel
theorem dX12_readTest_67 : decode cX12_readTest 67 = .ok (.invokevirtual 139, 3) := by decide +kernel
theorem dX12_readTest_70 : decode cX12_readTest 70 = .ok (.ifCond .eq 7, 3) := by decide +kernel
theorem dX12_readTest_77 : decode cX12_readTest 77 = .ok (.aload_n 0, 1) := by decide +kernel
theorem dX12_readTest_78 : decode cX12_readTest 78 = .ok (.invokevirtual 139, 3) := by decide +kernel
theorem dX12_readTest_81 : decode cX12_readTest 81 = .ok (.ifCond .eq 8, 3) := by decide +kernel
theorem dX12_readTest_89 : decode cX12_readTest 89 = .ok (.aload_n 0, 1) := by decide +kernel
theorem dX12_readTest_90 : decode cX12_readTest 90 = .ok (.invokevirtual 139, 3) := by decide +kernel
theorem dX12_readTest_93 : decode cX12_readTest 93 = .ok (.ifCond .ne 4, 3) := by decide +kernel
theorem dX12_readTest_96 : decode cX12_readTest 96 = .ok (.return_, 1) := by decide +kernel
theorem dX12_readTest_50 : decode cX12_readTest 50 = .ok (.iconst 2, 1) := by decide +kernel
theorem dX12_readTest_51 : decode cX12_readTest 51 = .ok (.goto 4, 3) := by decide +kernel
theorem dX12_readTest_73 : decode cX12_readTest 73 = .ok (.aload_n 0, 1) := by decide +kernel
theorem dX12_readTest_74 : decode cX12_readTest 74 = .ok (.invokevirtual 156, 3) := by decide +kernel
theorem dX12_readTest_84 : decode cX12_readTest 84 = .ok (.aload_n 0, 1) := by decide +kernel
theorem dX12_readTest_85 : decode cX12_readTest 85 = .ok (.iconst 4, 1) := by decide +kernel
theorem dX12_readTest_86 : decode cX12_readTest 86 = .ok (.invokevirtual 269, 3) := by decide +kernel
theorem dX12_readTest_97 : decode cX12_readTest 97 = .ok (.sipush 162, 3) := by decide +kernel
theorem dX12_readTest_100 : decode cX12_readTest 100 = .ok (.iconst 4, 1) := by decide +kernel
theorem dX12_readTest_101 : decode cX12_readTest 101 = .ok (.aload_n 0, 1) := by decide +kernel
theorem dX12_readTest_102 : decode cX12_readTest 102 = .ok (.getfield 34, 3) := by decide +kernel
theorem dX12_readTest_105 : decode cX12_readTest 105 = .ok (.iconst 4, 1) := by decide +kernel
theorem dX12_readTest_106 : decode cX12_readTest 106 = .ok (.iaload, 1) := by decide +kernel
theorem dX12_readTest_107 : decode cX12_readTest 107 = .ok (.imul, 1) := by decide +kernel
theorem dX12_readTest_108 : decode cX12_readTest 108 = .ok (.iadd, 1) := by decide +kernel
theorem dX12_readTest_109 : decode cX12_readTest 109 = .ok (.istore_n 3, 1) := by decide +kernel
theorem dX12_readTest_110 : decode cX12_readTest 110 = .ok (.aload_n 0, 1) := by decide +kernel
theorem dX12_readTest_111 : decode cX12_readTest 111 = .ok (.getfield 34, 3) := by decide +kernel
theorem dX12_readTest_114 : decode cX12_readTest 114 = .ok (.iload_n 3, 1) := by decide +kernel
theorem dX12_readTest_115 : decode cX12_readTest 115 = .ok (.aload_n 0, 1) := by decide +kernel
theorem dX12_readTest_116 : decode cX12_readTest 116 = .ok (.getfield 34, 3) := by decide +kernel
theorem dX12_readTest_119 : decode cX12_readTest 119 = .ok (.iconst 3, 1) := by decide +kernel
theorem dX12_readTest_120 : decode cX12_readTest 120 = .ok (.iaload, 1) := by decide +kernel
theorem dX12_readTest_121 : decode cX12_readTest 121 = .ok (.iastore, 1) := by decide +kernel
theorem dX12_readTest_122 : decode cX12_readTest 122 = .ok (.aload_n 0, 1) := by decide +kernel
theorem dX12_readTest_123 : decode cX12_readTest 123 = .ok (.getfield 34, 3) := by decide +kernel
theorem dX12_readTest_126 : decode cX12_readTest 126 = .ok (.iload_n 3, 1) := by decide +kernel
theorem dX12_readTest_127 : decode cX12_readTest 127 = .ok (.iconst 1, 1) := by decide +kernel
theorem dX12_readTest_128 : decode cX12_readTest 128 = .ok (.iadd, 1) := by decide +kernel
theorem dX12_readTest_129 : decode cX12_readTest 129 = .ok (.iload_n 1, 1) := by decide +kernel
theorem dX12_readTest_130 : decode cX12_readTest 130 = .ok (.iastore, 1) := by decide +kernel
theorem dX12_readTest_131 : decode cX12_readTest 131 = .ok (.aload_n 0, 1) := by decide +kernel
theorem dX12_readTest_132 : decode cX12_readTest 132 = .ok (.getfield 34, 3) := by decide +kernel
theorem dX12_readTest_135 : decode cX12_readTest 135 = .ok (.iload_n 3, 1) := by decide +kernel
theorem dX12_readTest_136 : decode cX12_readTest 136 = .ok (.iconst 2, 1) := by decide +kernel
theorem dX12_readTest_137 : decode cX12_readTest 137 = .ok (.iadd, 1) := by decide +kernel
theorem dX12_readTest_138 : decode cX12_readTest 138 = .ok (.aload_n 0, 1) := by decide +kernel
theorem dX12_readTest_139 : decode cX12_readTest 139 = .ok (.getfield 34, 3) := by decide +kernel
theorem dX12_readTest_142 : decode cX12_readTest 142 = .ok (.iconst 5, 1) := by decide +kernel
theorem dX12_readTest_143 : decode cX12_readTest 143 = .ok (.iaload, 1) := by decide +kernel
theorem dX12_readTest_144 : decode cX12_readTest 144 = .ok (.iload_n 1, 1) := by decide +kernel
theorem dX12_readTest_145 : decode cX12_readTest 145 = .ok (.isub, 1) := by decide +kernel
theorem dX12_readTest_146 : decode cX12_readTest 146 = .ok (.iastore, 1) := by decide +kernel
theorem dX12_readTest_147 : decode cX12_readTest 147 = .ok (.aload_n 0, 1) := by decide +kernel
theorem dX12_readTest_148 : decode cX12_readTest 148 = .ok (.getfield 34, 3) := by decide +kernel
theorem dX12_readTest_151 : decode cX12_readTest 151 = .ok (.iload_n 3, 1) := by decide +kernel
theorem dX12_readTest_152 : decode cX12_readTest 152 = .ok (.iconst 3, 1) := by decide +kernel
theorem dX12_readTest_153 : decode cX12_readTest 153 = .ok (.iadd, 1) := by decide +kernel
theorem dX12_readTest_154 : decode cX12_readTest 154 = .ok (.iload_n 2, 1) := by decide +kernel
theorem dX12_readTest_155 : decode cX12_readTest 155 = .ok (.iastore, 1) := by decide +kernel
theorem dX12_readTest_156 : decode cX12_readTest 156 = .ok (.aload_n 0, 1) := by decide +kernel
theorem dX12_readTest_157 : decode cX12_readTest 157 = .ok (.getfield 34, 3) := by decide +kernel
theorem dX12_readTest_160 : decode cX12_readTest 160 = .ok (.iconst 4, 1) := by decide +kernel
theorem dX12_readTest_161 : decode cX12_readTest 161 = .ok (.dup2, 1) := by decide +kernel
theorem dX12_readTest_162 : decode cX12_readTest 162 = .ok (.iaload, 1) := by decide +kernel
theorem dX12_readTest_163 : decode cX12_readTest 163 = .ok (.iconst 1, 1) := by decide +kernel
theorem dX12_readTest_164 : decode cX12_readTest 164 = .ok (.iadd, 1) := by decide +kernel
theorem dX12_readTest_165 : decode cX12_readTest 165 = .ok (.iastore, 1) := by decide +kernel
theorem dX12_readTest_166 : decode cX12_readTest 166 = .ok (.return_, 1) := by decide +kernel
theorem dX12_readTest_36 : decode cX12_readTest 36 = .ok (.iconst 1, 1) := by decide +kernel
theorem dX12_readTest_37 : decode cX12_readTest 37 = .ok (.goto 18, 3) := by decide +kernel
theorem dX12_readTest_22 : decode cX12_readTest 22 = .ok (.iconst 0, 1) := by decide +kernel
theorem dX12_readTest_23 : decode cX12_readTest 23 = .ok (.goto 32, 3) := by decide +kernel
theorem dX12_watcher_0 : decode cX12_watcher 0 = .ok (.aload_n 0, 1) := by decide +kernel
theorem dX12_watcher_1 : decode cX12_watcher 1 = .ok (.invokevirtual 181, 3) := by decide +kernel
theorem dX12_watcher_4 : decode cX12_watcher 4 = .ok (.aload_n 0, 1) := by decide +kernel
theorem dX12_watcher_5 : decode cX12_watcher 5 = .ok (.iconst 3, 1) := by decide +kernel
theorem dX12_watcher_6 : decode cX12_watcher 6 = .ok (.bipush 6, 2) := by decide +kernel
theorem dX12_watcher_8 : decode cX12_watcher 8 = .ok (.invokevirtual 184, 3) := by decide +kernel
theorem dX12_watcher_11 : decode cX12_watcher 11 = .ok (.aload_n 0, 1) := by decide +kernel
theorem dX12_watcher_12 : decode cX12_watcher 12 = .ok (.invokevirtual 156, 3) := by decide +kernel
theorem dX12_watcher_15 : decode cX12_watcher 15 = .ok (.aload_n 0, 1) := by decide +kernel
theorem dX12_watcher_16 : decode cX12_watcher 16 = .ok (.invokevirtual 139, 3) := by decide +kernel
theorem dX12_watcher_19 : decode cX12_watcher 19 = .ok (.ifCond .eq 95, 3) := by decide +kernel
theorem dX12_watcher_114 : decode cX12_watcher 114 = .ok (.aload_n 0, 1) := by decide +kernel
theorem dX12_watcher_115 : decode cX12_watcher 115 = .ok (.invokevirtual 139, 3) := by decide +kernel
theorem dX12_watcher_118 : decode cX12_watcher 118 = .ok (.ifCond .ne 6, 3) := by decide +kernel
theorem dX12_watcher_121 : decode cX12_watcher 121 = .ok (.bipush (-4), 2) := by decide +kernel
theorem dX12_watcher_123 : decode cX12_watcher 123 = .ok (.ireturn, 1) := by decide +kernel
theorem dX12_watcher_22 : decode cX12_watcher 22 = .ok (.aload_n 0, 1) := by decide +kernel
theorem dX12_watcher_23 : decode cX12_watcher 23 = .ok (.getfield 120, 3) := by decide +kernel
theorem dX12_watcher_26 : decode cX12_watcher 26 = .ok (.ifCond .eq 88, 3) := by decide +kernel
theorem dX12_watcher_124 : decode cX12_watcher 124 = .ok (.aload_n 0, 1) := by decide +kernel
theorem dX12_watcher_125 : decode cX12_watcher 125 = .ok (.iconst 3, 1) := by decide +kernel
theorem dX12_watcher_126 : decode cX12_watcher 126 = .ok (.bipush 6, 2) := by decide +kernel
theorem dX12_watcher_128 : decode cX12_watcher 128 = .ok (.invokevirtual 197, 3) := by decide +kernel
theorem dX12_watcher_131 : decode cX12_watcher 131 = .ok (.aload_n 0, 1) := by decide +kernel
theorem dX12_watcher_132 : decode cX12_watcher 132 = .ok (.sipush 162, 3) := by decide +kernel
theorem dX12_watcher_135 : decode cX12_watcher 135 = .ok (.sipush 1012, 3) := by decide +kernel
theorem dX12_watcher_138 : decode cX12_watcher 138 = .ok (.invokevirtual 197, 3) := by decide +kernel
theorem dX12_watcher_141 : decode cX12_watcher 141 = .ok (.aload_n 0, 1) := by decide +kernel
theorem dX12_watcher_142 : decode cX12_watcher 142 = .ok (.getfield 13, 3) := by decide +kernel
theorem dX12_watcher_145 : decode cX12_watcher 145 = .ok (.iconst 3, 1) := by decide +kernel
theorem dX12_watcher_146 : decode cX12_watcher 146 = .ok (.iaload, 1) := by decide +kernel
theorem dX12_watcher_147 : decode cX12_watcher 147 = .ok (.ireturn, 1) := by decide +kernel
theorem dX12_watcher_29 : decode cX12_watcher 29 = .ok (.aload_n 0, 1) := by decide +kernel
theorem dX12_watcher_30 : decode cX12_watcher 30 = .ok (.ldc_w 278, 3) := by decide +kernel
theorem dX12_watcher_33 : decode cX12_watcher 33 = .ok (.invokevirtual 152, 3) := by decide +kernel
theorem dX12_watcher_36 : decode cX12_watcher 36 = .ok (.ifCond .eq 19, 3) := by decide +kernel
theorem dX12_watcher_55 : decode cX12_watcher 55 = .ok (.aload_n 0, 1) := by decide +kernel
theorem dX12_watcher_56 : decode cX12_watcher 56 = .ok (.ldc_w 278, 3) := by decide +kernel
theorem dX12_watcher_59 : decode cX12_watcher 59 = .ok (.invokevirtual 166, 3) := by decide +kernel
theorem dX12_watcher_62 : decode cX12_watcher 62 = .ok (.aload_n 0, 1) := by decide +kernel
theorem dX12_watcher_63 : decode cX12_watcher 63 = .ok (.ldc_w 280, 3) := by decide +kernel
theorem dX12_watcher_66 : decode cX12_watcher 66 = .ok (.invokevirtual 166, 3) := by decide +kernel
theorem dX12_watcher_69 : decode cX12_watcher 69 = .ok (.aload_n 0, 1) := by decide +kernel
theorem dX12_watcher_70 : decode cX12_watcher 70 = .ok (.invokevirtual 139, 3) := by decide +kernel
theorem dX12_watcher_73 : decode cX12_watcher 73 = .ok (.ifCond .eq 7, 3) := by decide +kernel
theorem dX12_watcher_80 : decode cX12_watcher 80 = .ok (.aload_n 0, 1) := by decide +kernel
theorem dX12_watcher_81 : decode cX12_watcher 81 = .ok (.ldc_w 285, 3) := by decide +kernel
theorem dX12_watcher_84 : decode cX12_watcher 84 = .ok (.invokevirtual 159, 3) := by decide +kernel
theorem dX12_watcher_87 : decode cX12_watcher 87 = .ok (.ifCond .eq 10, 3) := by decide +kernel
theorem dX12_watcher_97 : decode cX12_watcher 97 = .ok (.aload_n 0, 1) := by decide +kernel
theorem dX12_watcher_98 : decode cX12_watcher 98 = .ok (.invokevirtual 178, 3) := by decide +kernel
theorem dX12_watcher_101 : decode cX12_watcher 101 = .ok (.aload_n 0, 1) := by decide +kernel
theorem dX12_watcher_102 : decode cX12_watcher 102 = .ok (.getfield 34, 3) := by decide +kernel
theorem dX12_watcher_105 : decode cX12_watcher 105 = .ok (.iconst 3, 1) := by decide +kernel
theorem dX12_watcher_106 : decode cX12_watcher 106 = .ok (.dup2, 1) := by decide +kernel
theorem dX12_watcher_107 : decode cX12_watcher 107 = .ok (.iaload, 1) := by decide +kernel
theorem dX12_watcher_108 : decode cX12_watcher 108 = .ok (.iconst 1, 1) := by decide +kernel
theorem dX12_watcher_109 : decode cX12_watcher 109 = .ok (.iadd, 1) := by decide +kernel
theorem dX12_watcher_110 : decode cX12_watcher 110 = .ok (.iastore, 1) := by decide +kernel
theorem dX12_watcher_111 : decode cX12_watcher 111 = .ok (.goto (-96), 3) := by decide +kernel
theorem dX12_watcher_90 : decode cX12_watcher 90 = .ok (.aload_n 0, 1) := by decide +kernel
theorem dX12_watcher_91 : decode cX12_watcher 91 = .ok (.invokevirtual 282, 3) := by decide +kernel
theorem dX12_watcher_94 : decode cX12_watcher 94 = .ok (.goto (-14), 3) := by decide +kernel
theorem dX12_watcher_76 : decode cX12_watcher 76 = .ok (.aload_n 0, 1) := by decide +kernel
theorem dX12_watcher_77 : decode cX12_watcher 77 = .ok (.invokevirtual 282, 3) := by decide +kernel
theorem dX12_watcher_39 : decode cX12_watcher 39 = .ok (.aload_n 0, 1) := by decide +kernel
theorem dX12_watcher_40 : decode cX12_watcher 40 = .ok (.getfield 34, 3) := by decide +kernel
theorem dX12_watcher_43 : decode cX12_watcher 43 = .ok (.iconst 3, 1) := by decide +kernel
theorem dX12_watcher_44 : decode cX12_watcher 44 = .ok (.iaload, 1) := by decide +kernel
theorem dX12_watcher_45 : decode cX12_watcher 45 = .ok (.bipush 12, 2) := by decide +kernel
theorem dX12_watcher_47 : decode cX12_watcher 47 = .ok (.if_icmp .ne 8, 3) := by decide +kernel
theorem dX12_watcher_50 : decode cX12_watcher 50 = .ok (.aload_n 0, 1) := by decide +kernel
theorem dX12_watcher_51 : decode cX12_watcher 51 = .ok (.iconst 3, 1) := by decide +kernel
theorem dX12_watcher_52 : decode cX12_watcher 52 = .ok (.invokevirtual 162, 3) := by decide +kernel
