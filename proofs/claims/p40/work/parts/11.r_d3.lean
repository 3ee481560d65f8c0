theorem dX12_turn_34 : decode cX12_turn 34 = .ok (.aload_n 0, 1) := by decide +kernel
theorem dX12_turn_35 : decode cX12_turn 35 = .ok (.iload_n 1, 1) := by decide +kernel
theorem dX12_turn_36 : decode cX12_turn 36 = .ok (.invokevirtual 351, 3) := by decide +kernel
theorem dX12_turn_39 : decode cX12_turn 39 = .ok (.ifCond .ne 6, 3) := by decide +kernel
theorem dX12_turn_45 : decode cX12_turn 45 = .ok (.aload_n 0, 1) := by decide +kernel
theorem dX12_turn_46 : decode cX12_turn 46 = .ok (.iload_n 1, 1) := by decide +kernel
theorem dX12_turn_47 : decode cX12_turn 47 = .ok (.invokevirtual 363, 3) := by decide +kernel
theorem dX12_turn_50 : decode cX12_turn 50 = .ok (.iload_n 2, 1) := by decide +kernel
theorem dX12_turn_51 : decode cX12_turn 51 = .ok (.aload_n 0, 1) := by decide +kernel
theorem dX12_turn_52 : decode cX12_turn 52 = .ok (.invokevirtual 87, 3) := by decide +kernel
theorem dX12_turn_55 : decode cX12_turn 55 = .ok (.imul, 1) := by decide +kernel
theorem dX12_turn_56 : decode cX12_turn 56 = .ok (.iload_n 3, 1) := by decide +kernel
theorem dX12_turn_57 : decode cX12_turn 57 = .ok (.iadd, 1) := by decide +kernel
theorem dX12_turn_58 : decode cX12_turn 58 = .ok (.istore 4, 2) := by decide +kernel
theorem dX12_turn_60 : decode cX12_turn 60 = .ok (.aload_n 0, 1) := by decide +kernel
theorem dX12_turn_61 : decode cX12_turn 61 = .ok (.getfield 37, 3) := by decide +kernel
theorem dX12_turn_64 : decode cX12_turn 64 = .ok (.iload 4, 2) := by decide +kernel
theorem dX12_turn_66 : decode cX12_turn 66 = .ok (.iaload, 1) := by decide +kernel
theorem dX12_turn_67 : decode cX12_turn 67 = .ok (.iconst 4, 1) := by decide +kernel
theorem dX12_turn_68 : decode cX12_turn 68 = .ok (.if_icmp .ne 6, 3) := by decide +kernel
theorem dX12_turn_74 : decode cX12_turn 74 = .ok (.aload_n 0, 1) := by decide +kernel
theorem dX12_turn_75 : decode cX12_turn 75 = .ok (.getfield 37, 3) := by decide +kernel
theorem dX12_turn_78 : decode cX12_turn 78 = .ok (.iload 4, 2) := by decide +kernel
theorem dX12_turn_80 : decode cX12_turn 80 = .ok (.aload_n 0, 1) := by decide +kernel
theorem dX12_turn_81 : decode cX12_turn 81 = .ok (.iload 4, 2) := by decide +kernel
theorem dX12_turn_83 : decode cX12_turn 83 = .ok (.invokevirtual 344, 3) := by decide +kernel
theorem dX12_turn_86 : decode cX12_turn 86 = .ok (.iastore, 1) := by decide +kernel
theorem dX12_turn_87 : decode cX12_turn 87 = .ok (.aload_n 0, 1) := by decide +kernel
theorem dX12_turn_88 : decode cX12_turn 88 = .ok (.iload_n 1, 1) := by decide +kernel
theorem dX12_turn_89 : decode cX12_turn 89 = .ok (.invokevirtual 332, 3) := by decide +kernel
theorem dX12_turn_92 : decode cX12_turn 92 = .ok (.aload_n 0, 1) := by decide +kernel
theorem dX12_turn_93 : decode cX12_turn 93 = .ok (.getfield 37, 3) := by decide +kernel
theorem dX12_turn_96 : decode cX12_turn 96 = .ok (.iload 4, 2) := by decide +kernel
theorem dX12_turn_98 : decode cX12_turn 98 = .ok (.iaload, 1) := by decide +kernel
theorem dX12_turn_99 : decode cX12_turn 99 = .ok (.ireturn, 1) := by decide +kernel
theorem dX12_turn_71 : decode cX12_turn 71 = .ok (.bipush (-5), 2) := by decide +kernel
theorem dX12_turn_73 : decode cX12_turn 73 = .ok (.ireturn, 1) := by decide +kernel
theorem dX12_turn_42 : decode cX12_turn 42 = .ok (.bipush (-6), 2) := by decide +kernel
theorem dX12_turn_44 : decode cX12_turn 44 = .ok (.ireturn, 1) := by decide +kernel
theorem dX12_mend_0 : decode cX12_mend 0 = .ok (.aload_n 0, 1) := by decide +kernel
theorem dX12_mend_1 : decode cX12_mend 1 = .ok (.iload_n 1, 1) := by decide +kernel
theorem dX12_mend_2 : decode cX12_mend 2 = .ok (.invokevirtual 376, 3) := by decide +kernel
theorem dX12_mend_5 : decode cX12_mend 5 = .ok (.istore_n 2, 1) := by decide +kernel
theorem dX12_mend_6 : decode cX12_mend 6 = .ok (.iload_n 2, 1) := by decide +kernel
theorem dX12_mend_7 : decode cX12_mend 7 = .ok (.ifCond .ge 5, 3) := by decide +kernel
theorem dX12_mend_12 : decode cX12_mend 12 = .ok (.aload_n 0, 1) := by decide +kernel
theorem dX12_mend_13 : decode cX12_mend 13 = .ok (.iload_n 1, 1) := by decide +kernel
theorem dX12_mend_14 : decode cX12_mend 14 = .ok (.invokevirtual 363, 3) := by decide +kernel
theorem dX12_mend_17 : decode cX12_mend 17 = .ok (.aload_n 0, 1) := by decide +kernel
theorem dX12_mend_18 : decode cX12_mend 18 = .ok (.invokevirtual 405, 3) := by decide +kernel
theorem dX12_mend_21 : decode cX12_mend 21 = .ok (.iconst (-1), 1) := by decide +kernel
theorem dX12_mend_22 : decode cX12_mend 22 = .ok (.if_icmp .ne 5, 3) := by decide +kernel
theorem dX12_mend_27 : decode cX12_mend 27 = .ok (.iconst 0, 1) := by decide +kernel
theorem dX12_mend_28 : decode cX12_mend 28 = .ok (.istore_n 3, 1) := by decide +kernel
theorem dX12_mend_29 : decode cX12_mend 29 = .ok (.iconst 0, 1) := by decide +kernel
theorem dX12_mend_30 : decode cX12_mend 30 = .ok (.istore 4, 2) := by decide +kernel
theorem dX12_mend_32 : decode cX12_mend 32 = .ok (.iload 4, 2) := by decide +kernel
theorem dX12_mend_34 : decode cX12_mend 34 = .ok (.aload_n 0, 1) := by decide +kernel
theorem dX12_mend_35 : decode cX12_mend 35 = .ok (.invokevirtual 203, 3) := by decide +kernel
theorem dX12_mend_38 : decode cX12_mend 38 = .ok (.if_icmp .ge 161, 3) := by decide +kernel
theorem dX12_mend_199 : decode cX12_mend 199 = .ok (.iload_n 3, 1) := by decide +kernel
theorem dX12_mend_200 : decode cX12_mend 200 = .ok (.ifCond .eq 7, 3) := by decide +kernel
theorem dX12_mend_207 : decode cX12_mend 207 = .ok (.iconst (-1), 1) := by decide +kernel
theorem dX12_mend_208 : decode cX12_mend 208 = .ok (.ireturn, 1) := by decide +kernel
theorem dX12_mend_203 : decode cX12_mend 203 = .ok (.iconst 2, 1) := by decide +kernel
theorem dX12_mend_204 : decode cX12_mend 204 = .ok (.goto 4, 3) := by decide +kernel
theorem dX12_mend_41 : decode cX12_mend 41 = .ok (.aload_n 0, 1) := by decide +kernel
theorem dX12_mend_42 : decode cX12_mend 42 = .ok (.iload 4, 2) := by decide +kernel
theorem dX12_mend_44 : decode cX12_mend 44 = .ok (.invokevirtual 206, 3) := by decide +kernel
theorem dX12_mend_47 : decode cX12_mend 47 = .ok (.ifCond .eq 146, 3) := by decide +kernel
theorem dX12_mend_193 : decode cX12_mend 193 = .ok (.iinc 4 1, 3) := by decide +kernel
theorem dX12_mend_196 : decode cX12_mend 196 = .ok (.goto (-164), 3) := by decide +kernel
theorem dX12_mend_50 : decode cX12_mend 50 = .ok (.aload_n 0, 1) := by decide +kernel
theorem dX12_mend_51 : decode cX12_mend 51 = .ok (.getfield 37, 3) := by decide +kernel
theorem dX12_mend_54 : decode cX12_mend 54 = .ok (.iload 4, 2) := by decide +kernel
theorem dX12_mend_56 : decode cX12_mend 56 = .ok (.iaload, 1) := by decide +kernel
theorem dX12_mend_57 : decode cX12_mend 57 = .ok (.iconst 4, 1) := by decide +kernel
theorem dX12_mend_58 : decode cX12_mend 58 = .ok (.if_icmp .ne 6, 3) := by decide +kernel
theorem dX12_mend_64 : decode cX12_mend 64 = .ok (.aload_n 0, 1) := by decide +kernel
theorem dX12_mend_65 : decode cX12_mend 65 = .ok (.getfield 37, 3) := by decide +kernel
theorem dX12_mend_68 : decode cX12_mend 68 = .ok (.iload 4, 2) := by decide +kernel
theorem dX12_mend_70 : decode cX12_mend 70 = .ok (.iaload, 1) := by decide +kernel
theorem dX12_mend_71 : decode cX12_mend 71 = .ok (.istore 5, 2) := by decide +kernel
theorem dX12_mend_73 : decode cX12_mend 73 = .ok (.aload_n 0, 1) := by decide +kernel
theorem dX12_mend_74 : decode cX12_mend 74 = .ok (.getfield 37, 3) := by decide +kernel
theorem dX12_mend_77 : decode cX12_mend 77 = .ok (.iload 4, 2) := by decide +kernel
theorem dX12_mend_79 : decode cX12_mend 79 = .ok (.aload_n 0, 1) := by decide +kernel
theorem dX12_mend_80 : decode cX12_mend 80 = .ok (.iload 4, 2) := by decide +kernel
theorem dX12_mend_82 : decode cX12_mend 82 = .ok (.invokevirtual 344, 3) := by decide +kernel
theorem dX12_mend_85 : decode cX12_mend 85 = .ok (.iastore, 1) := by decide +kernel
theorem dX12_mend_86 : decode cX12_mend 86 = .ok (.aload_n 0, 1) := by decide +kernel
theorem dX12_mend_87 : decode cX12_mend 87 = .ok (.invokevirtual 405, 3) := by decide +kernel
theorem dX12_mend_90 : decode cX12_mend 90 = .ok (.iconst (-1), 1) := by decide +kernel
theorem dX12_mend_91 : decode cX12_mend 91 = .ok (.if_icmp .ne 5, 3) := by decide +kernel
theorem dX12_mend_96 : decode cX12_mend 96 = .ok (.iconst 0, 1) := by decide +kernel
theorem dX12_mend_97 : decode cX12_mend 97 = .ok (.istore 6, 2) := by decide +kernel
theorem dX12_mend_99 : decode cX12_mend 99 = .ok (.iload 6, 2) := by decide +kernel
theorem dX12_mend_101 : decode cX12_mend 101 = .ok (.iload 4, 2) := by decide +kernel
theorem dX12_mend_103 : decode cX12_mend 103 = .ok (.if_icmp .ge 81, 3) := by decide +kernel
theorem dX12_mend_184 : decode cX12_mend 184 = .ok (.aload_n 0, 1) := by decide +kernel
theorem dX12_mend_185 : decode cX12_mend 185 = .ok (.getfield 37, 3) := by decide +kernel
theorem dX12_mend_188 : decode cX12_mend 188 = .ok (.iload 4, 2) := by decide +kernel
theorem dX12_mend_190 : decode cX12_mend 190 = .ok (.iload 5, 2) := by decide +kernel
theorem dX12_mend_192 : decode cX12_mend 192 = .ok (.iastore, 1) := by decide +kernel
theorem dX12_mend_106 : decode cX12_mend 106 = .ok (.iload_n 3, 1) := by decide +kernel
theorem dX12_mend_107 : decode cX12_mend 107 = .ok (.ifCond .ne 77, 3) := by decide +kernel
theorem dX12_mend_110 : decode cX12_mend 110 = .ok (.aload_n 0, 1) := by decide +kernel
theorem dX12_mend_111 : decode cX12_mend 111 = .ok (.iload 6, 2) := by decide +kernel
theorem dX12_mend_113 : decode cX12_mend 113 = .ok (.invokevirtual 206, 3) := by decide +kernel
theorem dX12_mend_116 : decode cX12_mend 116 = .ok (.ifCond .eq 62, 3) := by decide +kernel
theorem dX12_mend_178 : decode cX12_mend 178 = .ok (.iinc 6 1, 3) := by decide +kernel
theorem dX12_mend_181 : decode cX12_mend 181 = .ok (.goto (-82), 3) := by decide +kernel
theorem dX12_mend_119 : decode cX12_mend 119 = .ok (.aload_n 0, 1) := by decide +kernel
theorem dX12_mend_120 : decode cX12_mend 120 = .ok (.getfield 37, 3) := by decide +kernel
theorem dX12_mend_123 : decode cX12_mend 123 = .ok (.iload 6, 2) := by decide +kernel
theorem dX12_mend_125 : decode cX12_mend 125 = .ok (.iaload, 1) := by decide +kernel
theorem dX12_mend_126 : decode cX12_mend 126 = .ok (.iconst 4, 1) := by decide +kernel
theorem dX12_mend_127 : decode cX12_mend 127 = .ok (.if_icmp .ne 6, 3) := by decide +kernel
theorem dX12_mend_133 : decode cX12_mend 133 = .ok (.aload_n 0, 1) := by decide +kernel
theorem dX12_mend_134 : decode cX12_mend 134 = .ok (.getfield 37, 3) := by decide +kernel
theorem dX12_mend_137 : decode cX12_mend 137 = .ok (.iload 6, 2) := by decide +kernel
theorem dX12_mend_139 : decode cX12_mend 139 = .ok (.iaload, 1) := by decide +kernel
theorem dX12_mend_140 : decode cX12_mend 140 = .ok (.istore 7, 2) := by decide +kernel
theorem dX12_mend_142 : decode cX12_mend 142 = .ok (.aload_n 0, 1) := by decide +kernel
theorem dX12_mend_143 : decode cX12_mend 143 = .ok (.getfield 37, 3) := by decide +kernel
theorem dX12_mend_146 : decode cX12_mend 146 = .ok (.iload 6, 2) := by decide +kernel
theorem dX12_mend_148 : decode cX12_mend 148 = .ok (.aload_n 0, 1) := by decide +kernel
theorem dX12_mend_149 : decode cX12_mend 149 = .ok (.iload 6, 2) := by decide +kernel
theorem dX12_mend_151 : decode cX12_mend 151 = .ok (.invokevirtual 344, 3) := by decide +kernel
theorem dX12_mend_154 : decode cX12_mend 154 = .ok (.iastore, 1) := by decide +kernel
theorem dX12_mend_155 : decode cX12_mend 155 = .ok (.aload_n 0, 1) := by decide +kernel
theorem dX12_mend_156 : decode cX12_mend 156 = .ok (.invokevirtual 405, 3) := by decide +kernel
theorem dX12_mend_159 : decode cX12_mend 159 = .ok (.iconst (-1), 1) := by decide +kernel
theorem dX12_mend_160 : decode cX12_mend 160 = .ok (.if_icmp .ne 7, 3) := by decide +kernel
theorem dX12_mend_167 : decode cX12_mend 167 = .ok (.iconst 0, 1) := by decide +kernel
theorem dX12_mend_168 : decode cX12_mend 168 = .ok (.istore_n 3, 1) := by decide +kernel
theorem dX12_mend_169 : decode cX12_mend 169 = .ok (.aload_n 0, 1) := by decide +kernel
theorem dX12_mend_170 : decode cX12_mend 170 = .ok (.getfield 37, 3) := by decide +kernel
theorem dX12_mend_173 : decode cX12_mend 173 = .ok (.iload 6, 2) := by decide +kernel
theorem dX12_mend_175 : decode cX12_mend 175 = .ok (.iload 7, 2) := by decide +kernel
theorem dX12_mend_177 : decode cX12_mend 177 = .ok (.iastore, 1) := by decide +kernel
theorem dX12_mend_163 : decode cX12_mend 163 = .ok (.iconst 1, 1) := by decide +kernel
theorem dX12_mend_164 : decode cX12_mend 164 = .ok (.goto 4, 3) := by decide +kernel
theorem dX12_mend_130 : decode cX12_mend 130 = .ok (.goto 48, 3) := by decide +kernel
theorem dX12_mend_94 : decode cX12_mend 94 = .ok (.iconst 1, 1) := by decide +kernel
theorem dX12_mend_95 : decode cX12_mend 95 = .ok (.ireturn, 1) := by decide +kernel
theorem dX12_mend_61 : decode cX12_mend 61 = .ok (.goto 132, 3) := by decide +kernel
theorem dX12_mend_25 : decode cX12_mend 25 = .ok (.iconst 0, 1) := by decide +kernel
theorem dX12_mend_26 : decode cX12_mend 26 = .ok (.ireturn, 1) := by decide +kernel
theorem dX12_mend_10 : decode cX12_mend 10 = .ok (.iload_n 2, 1) := by decide +kernel
theorem dX12_mend_11 : decode cX12_mend 11 = .ok (.ireturn, 1) := by decide +kernel
theorem dX12_count_0 : decode cX12_count 0 = .ok (.iconst 0, 1) := by decide +kernel
theorem dX12_count_1 : decode cX12_count 1 = .ok (.istore_n 2, 1) := by decide +kernel
theorem dX12_count_2 : decode cX12_count 2 = .ok (.iload_n 1, 1) := by decide +kernel
theorem dX12_count_3 : decode cX12_count 3 = .ok (.tableswitch 186 0 9 #[53, 58, 63, 68, 93, 100, 108, 139, 144, 153], 53) := by decide +kernel
theorem dX12_count_56 : decode cX12_count 56 = .ok (.aload_n 0, 1) := by decide +kernel
theorem dX12_count_57 : decode cX12_count 57 = .ok (.invokevirtual 83, 3) := by decide +kernel
theorem dX12_count_60 : decode cX12_count 60 = .ok (.ireturn, 1) := by decide +kernel
theorem dX12_count_61 : decode cX12_count 61 = .ok (.aload_n 0, 1) := by decide +kernel
theorem dX12_count_62 : decode cX12_count 62 = .ok (.invokevirtual 87, 3) := by decide +kernel
theorem dX12_count_65 : decode cX12_count 65 = .ok (.ireturn, 1) := by decide +kernel
theorem dX12_count_66 : decode cX12_count 66 = .ok (.aload_n 0, 1) := by decide +kernel
theorem dX12_count_67 : decode cX12_count 67 = .ok (.invokevirtual 200, 3) := by decide +kernel
theorem dX12_count_70 : decode cX12_count 70 = .ok (.ireturn, 1) := by decide +kernel
theorem dX12_count_71 : decode cX12_count 71 = .ok (.iconst 0, 1) := by decide +kernel
theorem dX12_count_72 : decode cX12_count 72 = .ok (.istore_n 3, 1) := by decide +kernel
theorem dX12_count_73 : decode cX12_count 73 = .ok (.iload_n 3, 1) := by decide +kernel
theorem dX12_count_74 : decode cX12_count 74 = .ok (.bipush 6, 2) := by decide +kernel
theorem dX12_count_76 : decode cX12_count 76 = .ok (.if_icmp .ge 18, 3) := by decide +kernel
theorem dX12_count_94 : decode cX12_count 94 = .ok (.iload_n 2, 1) := by decide +kernel
theorem dX12_count_95 : decode cX12_count 95 = .ok (.ireturn, 1) := by decide +kernel
theorem dX12_count_79 : decode cX12_count 79 = .ok (.iload_n 2, 1) := by decide +kernel
theorem dX12_count_80 : decode cX12_count 80 = .ok (.aload_n 0, 1) := by decide +kernel
theorem dX12_count_81 : decode cX12_count 81 = .ok (.iload_n 3, 1) := by decide +kernel
theorem dX12_count_82 : decode cX12_count 82 = .ok (.iconst 0, 1) := by decide +kernel
theorem dX12_count_83 : decode cX12_count 83 = .ok (.invokevirtual 94, 3) := by decide +kernel
theorem dX12_count_86 : decode cX12_count 86 = .ok (.iadd, 1) := by decide +kernel
theorem dX12_count_87 : decode cX12_count 87 = .ok (.istore_n 2, 1) := by decide +kernel
theorem dX12_count_88 : decode cX12_count 88 = .ok (.iinc 3 1, 3) := by decide +kernel
theorem dX12_count_91 : decode cX12_count 91 = .ok (.goto (-18), 3) := by decide +kernel
theorem dX12_count_96 : decode cX12_count 96 = .ok (.aload_n 0, 1) := by decide +kernel
theorem dX12_count_97 : decode cX12_count 97 = .ok (.getfield 13, 3) := by decide +kernel
theorem dX12_count_100 : decode cX12_count 100 = .ok (.iconst 3, 1) := by decide +kernel
theorem dX12_count_101 : decode cX12_count 101 = .ok (.iaload, 1) := by decide +kernel
theorem dX12_count_102 : decode cX12_count 102 = .ok (.ireturn, 1) := by decide +kernel
theorem dX12_count_103 : decode cX12_count 103 = .ok (.aload_n 0, 1) := by decide +kernel
theorem dX12_count_104 : decode cX12_count 104 = .ok (.getfield 13, 3) := by decide +kernel
theorem dX12_count_107 : decode cX12_count 107 = .ok (.bipush 6, 2) := by decide +kernel
theorem dX12_count_109 : decode cX12_count 109 = .ok (.iaload, 1) := by decide +kernel
theorem dX12_count_110 : decode cX12_count 110 = .ok (.ireturn, 1) := by decide +kernel
theorem dX12_count_111 : decode cX12_count 111 = .ok (.iconst 0, 1) := by decide +kernel
theorem dX12_count_112 : decode cX12_count 112 = .ok (.istore_n 3, 1) := by decide +kernel
theorem dX12_count_113 : decode cX12_count 113 = .ok (.iload_n 3, 1) := by decide +kernel
theorem dX12_count_114 : decode cX12_count 114 = .ok (.iconst 4, 1) := by decide +kernel
theorem dX12_count_115 : decode cX12_count 115 = .ok (.if_icmp .ge 25, 3) := by decide +kernel
theorem dX12_count_140 : decode cX12_count 140 = .ok (.iload_n 2, 1) := by decide +kernel
theorem dX12_count_141 : decode cX12_count 141 = .ok (.ireturn, 1) := by decide +kernel
theorem dX12_count_118 : decode cX12_count 118 = .ok (.iload_n 2, 1) := by decide +kernel
theorem dX12_count_119 : decode cX12_count 119 = .ok (.aload_n 0, 1) := by decide +kernel
theorem dX12_count_120 : decode cX12_count 120 = .ok (.iload_n 3, 1) := by decide +kernel
theorem dX12_count_121 : decode cX12_count 121 = .ok (.invokevirtual 351, 3) := by decide +kernel
theorem dX12_count_124 : decode cX12_count 124 = .ok (.ifCond .eq 7, 3) := by decide +kernel
theorem dX12_count_131 : decode cX12_count 131 = .ok (.iconst 0, 1) := by decide +kernel
theorem dX12_count_132 : decode cX12_count 132 = .ok (.iadd, 1) := by decide +kernel
theorem dX12_count_133 : decode cX12_count 133 = .ok (.istore_n 2, 1) := by decide +kernel
theorem dX12_count_134 : decode cX12_count 134 = .ok (.iinc 3 1, 3) := by decide +kernel
theorem dX12_count_137 : decode cX12_count 137 = .ok (.goto (-24), 3) := by decide +kernel
theorem dX12_count_127 : decode cX12_count 127 = .ok (.iconst 1, 1) := by decide +kernel
theorem dX12_count_128 : decode cX12_count 128 = .ok (.goto 4, 3) := by decide +kernel
theorem dX12_count_142 : decode cX12_count 142 = .ok (.aload_n 0, 1) := by decide +kernel
theorem dX12_count_143 : decode cX12_count 143 = .ok (.getfield 102, 3) := by decide +kernel
theorem dX12_count_146 : decode cX12_count 146 = .ok (.ireturn, 1) := by decide +kernel
theorem dX12_count_147 : decode cX12_count 147 = .ok (.iconst 0, 1) := by decide +kernel
theorem dX12_count_148 : decode cX12_count 148 = .ok (.aload_n 0, 1) := by decide +kernel
theorem dX12_count_149 : decode cX12_count 149 = .ok (.getfield 49, 3) := by decide +kernel
theorem dX12_count_152 : decode cX12_count 152 = .ok (.invokestatic 386, 3) := by decide +kernel
theorem dX12_count_155 : decode cX12_count 155 = .ok (.ireturn, 1) := by decide +kernel
theorem dX12_count_156 : decode cX12_count 156 = .ok (.iconst 0, 1) := by decide +kernel
theorem dX12_count_157 : decode cX12_count 157 = .ok (.istore_n 3, 1) := by decide +kernel
theorem dX12_count_158 : decode cX12_count 158 = .ok (.iload_n 3, 1) := by decide +kernel
theorem dX12_count_159 : decode cX12_count 159 = .ok (.iconst 4, 1) := by decide +kernel
theorem dX12_count_160 : decode cX12_count 160 = .ok (.if_icmp .ge 27, 3) := by decide +kernel
theorem dX12_count_187 : decode cX12_count 187 = .ok (.iload_n 2, 1) := by decide +kernel
theorem dX12_count_188 : decode cX12_count 188 = .ok (.ireturn, 1) := by decide +kernel
theorem dX12_count_163 : decode cX12_count 163 = .ok (.iload_n 2, 1) := by decide +kernel
theorem dX12_count_164 : decode cX12_count 164 = .ok (.aload_n 0, 1) := by decide +kernel
theorem dX12_count_165 : decode cX12_count 165 = .ok (.getfield 64, 3) := by decide +kernel
theorem dX12_count_168 : decode cX12_count 168 = .ok (.iload_n 3, 1) := by decide +kernel
theorem dX12_count_169 : decode cX12_count 169 = .ok (.iaload, 1) := by decide +kernel
theorem dX12_count_170 : decode cX12_count 170 = .ok (.iconst (-1), 1) := by decide +kernel
theorem dX12_count_171 : decode cX12_count 171 = .ok (.if_icmp .ne 7, 3) := by decide +kernel
theorem dX12_count_178 : decode cX12_count 178 = .ok (.iconst 1, 1) := by decide +kernel
theorem dX12_count_179 : decode cX12_count 179 = .ok (.iadd, 1) := by decide +kernel
theorem dX12_count_180 : decode cX12_count 180 = .ok (.istore_n 2, 1) := by decide +kernel
theorem dX12_count_181 : decode cX12_count 181 = .ok (.iinc 3 1, 3) := by decide +kernel
theorem dX12_count_184 : decode cX12_count 184 = .ok (.goto (-26), 3) := by decide +kernel
theorem dX12_count_174 : decode cX12_count 174 = .ok (.iconst 0, 1) := by decide +kernel
theorem dX12_count_175 : decode cX12_count 175 = .ok (.goto 4, 3) := by decide +kernel
theorem dX12_count_189 : decode cX12_count 189 = .ok (.iconst (-1), 1) := by decide +kernel
theorem dX12_count_190 : decode cX12_count 190 = .ok (.ireturn, 1) := by decide +kernel
theorem dX12_row_0 : decode cX12_row 0 = .ok (.iload_n 1, 1) := by decide +kernel
theorem dX12_row_1 : decode cX12_row 1 = .ok (.invokestatic 425, 3) := by decide +kernel
theorem dX12_row_4 : decode cX12_row 4 = .ok (.ifCond .eq 21, 3) := by decide +kernel
theorem dX12_row_25 : decode cX12_row 25 = .ok (.bipush (-2), 2) := by decide +kernel
theorem dX12_row_27 : decode cX12_row 27 = .ok (.ireturn, 1) := by decide +kernel
theorem dX12_row_7 : decode cX12_row 7 = .ok (.iload_n 2, 1) := by decide +kernel
theorem dX12_row_8 : decode cX12_row 8 = .ok (.i2l, 1) := by decide +kernel
theorem dX12_row_9 : decode cX12_row 9 = .ok (.lconst 0, 1) := by decide +kernel
theorem dX12_row_10 : decode cX12_row 10 = .ok (.ldc2_w 90, 3) := by decide +kernel
theorem dX12_row_13 : decode cX12_row 13 = .ok (.invokestatic 79, 3) := by decide +kernel
theorem dX12_row_16 : decode cX12_row 16 = .ok (.ifCond .eq 9, 3) := by decide +kernel
theorem dX12_row_19 : decode cX12_row 19 = .ok (.iload_n 3, 1) := by decide +kernel
theorem dX12_row_20 : decode cX12_row 20 = .ok (.bipush 60, 2) := by decide +kernel
theorem dX12_row_22 : decode cX12_row 22 = .ok (.if_icmp .le 6, 3) := by decide +kernel
theorem dX12_row_28 : decode cX12_row 28 = .ok (.iload_n 3, 1) := by decide +kernel
theorem dX12_row_29 : decode cX12_row 29 = .ok (.ifCond .ge 6, 3) := by decide +kernel
theorem dX12_row_35 : decode cX12_row 35 = .ok (.aload_n 0, 1) := by decide +kernel
theorem dX12_row_36 : decode cX12_row 36 = .ok (.getfield 64, 3) := by decide +kernel
theorem dX12_row_39 : decode cX12_row 39 = .ok (.iload_n 1, 1) := by decide +kernel
theorem dX12_row_40 : decode cX12_row 40 = .ok (.iload_n 3, 1) := by decide +kernel
theorem dX12_row_41 : decode cX12_row 41 = .ok (.iastore, 1) := by decide +kernel
theorem dX12_row_42 : decode cX12_row 42 = .ok (.aload_n 0, 1) := by decide +kernel
theorem dX12_row_43 : decode cX12_row 43 = .ok (.getfield 67, 3) := by decide +kernel
theorem dX12_row_46 : decode cX12_row 46 = .ok (.iload_n 1, 1) := by decide +kernel
theorem dX12_row_47 : decode cX12_row 47 = .ok (.iload_n 2, 1) := by decide +kernel
theorem dX12_row_48 : decode cX12_row 48 = .ok (.iastore, 1) := by decide +kernel
theorem dX12_row_49 : decode cX12_row 49 = .ok (.iconst 0, 1) := by decide +kernel
theorem dX12_row_50 : decode cX12_row 50 = .ok (.istore 4, 2) := by decide +kernel
theorem dX12_row_52 : decode cX12_row 52 = .ok (.iload 4, 2) := by decide +kernel
theorem dX12_row_54 : decode cX12_row 54 = .ok (.bipush 60, 2) := by decide +kernel
theorem dX12_row_56 : decode cX12_row 56 = .ok (.if_icmp .ge 22, 3) := by decide +kernel
theorem dX12_row_78 : decode cX12_row 78 = .ok (.iconst 0, 1) := by decide +kernel
theorem dX12_row_79 : decode cX12_row 79 = .ok (.ireturn, 1) := by decide +kernel
theorem dX12_row_59 : decode cX12_row 59 = .ok (.aload_n 0, 1) := by decide +kernel
theorem dX12_row_60 : decode cX12_row 60 = .ok (.getfield 70, 3) := by decide +kernel
theorem dX12_row_63 : decode cX12_row 63 = .ok (.bipush 60, 2) := by decide +kernel
theorem dX12_row_65 : decode cX12_row 65 = .ok (.iload_n 1, 1) := by decide +kernel
theorem dX12_row_66 : decode cX12_row 66 = .ok (.imul, 1) := by decide +kernel
theorem dX12_row_67 : decode cX12_row 67 = .ok (.iload 4, 2) := by decide +kernel
theorem dX12_row_69 : decode cX12_row 69 = .ok (.iadd, 1) := by decide +kernel
theorem dX12_row_70 : decode cX12_row 70 = .ok (.lconst 0, 1) := by decide +kernel
theorem dX12_row_71 : decode cX12_row 71 = .ok (.lastore, 1) := by decide +kernel
theorem dX12_row_72 : decode cX12_row 72 = .ok (.iinc 4 1, 3) := by decide +kernel
theorem dX12_row_75 : decode cX12_row 75 = .ok (.goto (-23), 3) := by decide +kernel
theorem dX12_row_32 : decode cX12_row 32 = .ok (.bipush (-3), 2) := by decide +kernel
theorem dX12_row_34 : decode cX12_row 34 = .ok (.ireturn, 1) := by decide +kernel
theorem dX12_cut_0 : decode cX12_cut 0 = .ok (.bipush 64, 2) := by decide +kernel
theorem dX12_cut_2 : decode cX12_cut 2 = .ok (.bipush 8, 2) := by decide +kernel
theorem dX12_cut_4 : decode cX12_cut 4 = .ok (.iload_n 2, 1) := by decide +kernel
theorem dX12_cut_5 : decode cX12_cut 5 = .ok (.ishl, 1) := by decide +kernel
theorem dX12_cut_6 : decode cX12_cut 6 = .ok (.isub, 1) := by decide +kernel
theorem dX12_cut_7 : decode cX12_cut 7 = .ok (.istore_n 3, 1) := by decide +kernel
theorem dX12_cut_8 : decode cX12_cut 8 = .ok (.lload_n 0, 1) := by decide +kernel
theorem dX12_cut_9 : decode cX12_cut 9 = .ok (.iload_n 3, 1) := by decide +kernel
theorem dX12_cut_10 : decode cX12_cut 10 = .ok (.lshl, 1) := by decide +kernel
theorem dX12_cut_11 : decode cX12_cut 11 = .ok (.iload_n 3, 1) := by decide +kernel
theorem dX12_cut_12 : decode cX12_cut 12 = .ok (.lshr, 1) := by decide +kernel
theorem dX12_cut_13 : decode cX12_cut 13 = .ok (.lreturn, 1) := by decide +kernel
theorem dX12_write_0 : decode cX12_write 0 = .ok (.iload_n 1, 1) := by decide +kernel
theorem dX12_write_1 : decode cX12_write 1 = .ok (.invokestatic 425, 3) := by decide +kernel
theorem dX12_write_4 : decode cX12_write 4 = .ok (.ifCond .ne 6, 3) := by decide +kernel
theorem dX12_write_10 : decode cX12_write 10 = .ok (.aload_n 0, 1) := by decide +kernel
theorem dX12_write_11 : decode cX12_write 11 = .ok (.getfield 64, 3) := by decide +kernel
theorem dX12_write_14 : decode cX12_write 14 = .ok (.iload_n 1, 1) := by decide +kernel
theorem dX12_write_15 : decode cX12_write 15 = .ok (.iaload, 1) := by decide +kernel
theorem dX12_write_16 : decode cX12_write 16 = .ok (.iconst (-1), 1) := by decide +kernel
theorem dX12_write_17 : decode cX12_write 17 = .ok (.if_icmp .ne 6, 3) := by decide +kernel
theorem dX12_write_23 : decode cX12_write 23 = .ok (.iload_n 2, 1) := by decide +kernel
theorem dX12_write_24 : decode cX12_write 24 = .ok (.i2l, 1) := by decide +kernel
theorem dX12_write_25 : decode cX12_write 25 = .ok (.lconst 0, 1) := by decide +kernel
theorem dX12_write_26 : decode cX12_write 26 = .ok (.aload_n 0, 1) := by decide +kernel
theorem dX12_write_27 : decode cX12_write 27 = .ok (.getfield 64, 3) := by decide +kernel
theorem dX12_write_30 : decode cX12_write 30 = .ok (.iload_n 1, 1) := by decide +kernel
theorem dX12_write_31 : decode cX12_write 31 = .ok (.iaload, 1) := by decide +kernel
theorem dX12_write_32 : decode cX12_write 32 = .ok (.iconst 1, 1) := by decide +kernel
theorem dX12_write_33 : decode cX12_write 33 = .ok (.isub, 1) := by decide +kernel
theorem dX12_write_34 : decode cX12_write 34 = .ok (.i2l, 1) := by decide +kernel
theorem dX12_write_35 : decode cX12_write 35 = .ok (.invokestatic 79, 3) := by decide +kernel
theorem dX12_write_38 : decode cX12_write 38 = .ok (.ifCond .ne 6, 3) := by decide +kernel
theorem dX12_write_44 : decode cX12_write 44 = .ok (.aload_n 0, 1) := by decide +kernel
theorem dX12_write_45 : decode cX12_write 45 = .ok (.getfield 70, 3) := by decide +kernel
theorem dX12_write_48 : decode cX12_write 48 = .ok (.bipush 60, 2) := by decide +kernel
theorem dX12_write_50 : decode cX12_write 50 = .ok (.iload_n 1, 1) := by decide +kernel
theorem dX12_write_51 : decode cX12_write 51 = .ok (.imul, 1) := by decide +kernel
theorem dX12_write_52 : decode cX12_write 52 = .ok (.iload_n 2, 1) := by decide +kernel
theorem dX12_write_53 : decode cX12_write 53 = .ok (.iadd, 1) := by decide +kernel
theorem dX12_write_54 : decode cX12_write 54 = .ok (.lload_n 3, 1) := by decide +kernel
theorem dX12_write_55 : decode cX12_write 55 = .ok (.aload_n 0, 1) := by decide +kernel
theorem dX12_write_56 : decode cX12_write 56 = .ok (.getfield 67, 3) := by decide +kernel
theorem dX12_write_59 : decode cX12_write 59 = .ok (.iload_n 1, 1) := by decide +kernel
theorem dX12_write_60 : decode cX12_write 60 = .ok (.iaload, 1) := by decide +kernel
theorem dX12_write_61 : decode cX12_write 61 = .ok (.invokestatic 428, 3) := by decide +kernel
theorem dX12_write_64 : decode cX12_write 64 = .ok (.lastore, 1) := by decide +kernel
theorem dX12_write_65 : decode cX12_write 65 = .ok (.iconst 0, 1) := by decide +kernel
theorem dX12_write_66 : decode cX12_write 66 = .ok (.ireturn, 1) := by decide +kernel
theorem dX12_write_41 : decode cX12_write 41 = .ok (.bipush (-7), 2) := by decide +kernel
theorem dX12_write_43 : decode cX12_write 43 = .ok (.ireturn, 1) := by decide +kernel
theorem dX12_write_20 : decode cX12_write 20 = .ok (.bipush (-6), 2) := by decide +kernel
theorem dX12_write_22 : decode cX12_write 22 = .ok (.ireturn, 1) := by decide +kernel
theorem dX12_write_7 : decode cX12_write 7 = .ok (.bipush (-2), 2) := by decide +kernel
theorem dX12_write_9 : decode cX12_write 9 = .ok (.ireturn, 1) := by decide +kernel
theorem dX12_paste_0 : decode cX12_paste 0 = .ok (.iload_n 1, 1) := by decide +kernel
theorem dX12_paste_1 : decode cX12_paste 1 = .ok (.invokestatic 425, 3) := by decide +kernel
theorem dX12_paste_4 : decode cX12_paste 4 = .ok (.ifCond .eq 10, 3) := by decide +kernel
theorem dX12_paste_14 : decode cX12_paste 14 = .ok (.bipush (-2), 2) := by decide +kernel
theorem dX12_paste_16 : decode cX12_paste 16 = .ok (.ireturn, 1) := by decide +kernel
theorem dX12_paste_7 : decode cX12_paste 7 = .ok (.iload_n 3, 1) := by decide +kernel
theorem dX12_paste_8 : decode cX12_paste 8 = .ok (.invokestatic 425, 3) := by decide +kernel
theorem dX12_paste_11 : decode cX12_paste 11 = .ok (.ifCond .ne 6, 3) := by decide +kernel
theorem dX12_paste_17 : decode cX12_paste 17 = .ok (.aload_n 0, 1) := by decide +kernel
theorem dX12_paste_18 : decode cX12_paste 18 = .ok (.getfield 64, 3) := by decide +kernel
theorem dX12_paste_21 : decode cX12_paste 21 = .ok (.iload_n 1, 1) := by decide +kernel
theorem dX12_paste_22 : decode cX12_paste 22 = .ok (.iaload, 1) := by decide +kernel
theorem dX12_paste_23 : decode cX12_paste 23 = .ok (.iconst (-1), 1) := by decide +kernel
theorem dX12_paste_24 : decode cX12_paste 24 = .ok (.if_icmp .eq 13, 3) := by decide +kernel
theorem dX12_paste_37 : decode cX12_paste 37 = .ok (.bipush (-6), 2) := by decide +kernel
theorem dX12_paste_39 : decode cX12_paste 39 = .ok (.ireturn, 1) := by decide +kernel
theorem dX12_paste_27 : decode cX12_paste 27 = .ok (.aload_n 0, 1) := by decide +kernel
theorem dX12_paste_28 : decode cX12_paste 28 = .ok (.getfield 64, 3) := by decide +kernel
theorem dX12_paste_31 : decode cX12_paste 31 = .ok (.iload_n 3, 1) := by decide +kernel
theorem dX12_paste_32 : decode cX12_paste 32 = .ok (.iaload, 1) := by decide +kernel
theorem dX12_paste_33 : decode cX12_paste 33 = .ok (.iconst (-1), 1) := by decide +kernel
theorem dX12_paste_34 : decode cX12_paste 34 = .ok (.if_icmp .ne 6, 3) := by decide +kernel
theorem dX12_paste_40 : decode cX12_paste 40 = .ok (.aload_n 0, 1) := by decide +kernel
theorem dX12_paste_41 : decode cX12_paste 41 = .ok (.getfield 67, 3) := by decide +kernel
theorem dX12_paste_44 : decode cX12_paste 44 = .ok (.iload_n 1, 1) := by decide +kernel
theorem dX12_paste_45 : decode cX12_paste 45 = .ok (.iaload, 1) := by decide +kernel
theorem dX12_paste_46 : decode cX12_paste 46 = .ok (.aload_n 0, 1) := by decide +kernel
theorem dX12_paste_47 : decode cX12_paste 47 = .ok (.getfield 67, 3) := by decide +kernel
theorem dX12_paste_50 : decode cX12_paste 50 = .ok (.iload_n 3, 1) := by decide +kernel
theorem dX12_paste_51 : decode cX12_paste 51 = .ok (.iaload, 1) := by decide +kernel
theorem dX12_paste_52 : decode cX12_paste 52 = .ok (.if_icmp .eq 6, 3) := by decide +kernel
theorem dX12_paste_58 : decode cX12_paste 58 = .ok (.iload_n 2, 1) := by decide +kernel
theorem dX12_paste_59 : decode cX12_paste 59 = .ok (.ifCond .lt 48, 3) := by decide +kernel
theorem dX12_paste_107 : decode cX12_paste 107 = .ok (.bipush (-7), 2) := by decide +kernel
theorem dX12_paste_109 : decode cX12_paste 109 = .ok (.ireturn, 1) := by decide +kernel
theorem dX12_paste_62 : decode cX12_paste 62 = .ok (.iload 4, 2) := by decide +kernel
theorem dX12_paste_64 : decode cX12_paste 64 = .ok (.ifCond .lt 43, 3) := by decide +kernel
theorem dX12_paste_67 : decode cX12_paste 67 = .ok (.iload 5, 2) := by decide +kernel
theorem dX12_paste_69 : decode cX12_paste 69 = .ok (.ifCond .lt 38, 3) := by decide +kernel
theorem dX12_paste_72 : decode cX12_paste 72 = .ok (.iload_n 2, 1) := by decide +kernel
theorem dX12_paste_73 : decode cX12_paste 73 = .ok (.i2l, 1) := by decide +kernel
theorem dX12_paste_74 : decode cX12_paste 74 = .ok (.iload 5, 2) := by decide +kernel
theorem dX12_paste_76 : decode cX12_paste 76 = .ok (.i2l, 1) := by decide +kernel
theorem dX12_paste_77 : decode cX12_paste 77 = .ok (.ladd, 1) := by decide +kernel
theorem dX12_paste_78 : decode cX12_paste 78 = .ok (.aload_n 0, 1) := by decide +kernel
theorem dX12_paste_79 : decode cX12_paste 79 = .ok (.getfield 64, 3) := by decide +kernel
theorem dX12_paste_82 : decode cX12_paste 82 = .ok (.iload_n 1, 1) := by decide +kernel
theorem dX12_paste_83 : decode cX12_paste 83 = .ok (.iaload, 1) := by decide +kernel
theorem dX12_paste_84 : decode cX12_paste 84 = .ok (.i2l, 1) := by decide +kernel
theorem dX12_paste_85 : decode cX12_paste 85 = .ok (.lcmp, 1) := by decide +kernel
theorem dX12_paste_86 : decode cX12_paste 86 = .ok (.ifCond .gt 21, 3) := by decide +kernel
theorem dX12_paste_89 : decode cX12_paste 89 = .ok (.iload 4, 2) := by decide +kernel
theorem dX12_paste_91 : decode cX12_paste 91 = .ok (.i2l, 1) := by decide +kernel
theorem dX12_paste_92 : decode cX12_paste 92 = .ok (.iload 5, 2) := by decide +kernel
theorem dX12_paste_94 : decode cX12_paste 94 = .ok (.i2l, 1) := by decide +kernel
theorem dX12_paste_95 : decode cX12_paste 95 = .ok (.ladd, 1) := by decide +kernel
theorem dX12_paste_96 : decode cX12_paste 96 = .ok (.aload_n 0, 1) := by decide +kernel
theorem dX12_paste_97 : decode cX12_paste 97 = .ok (.getfield 64, 3) := by decide +kernel
theorem dX12_paste_100 : decode cX12_paste 100 = .ok (.iload_n 3, 1) := by decide +kernel
theorem dX12_paste_101 : decode cX12_paste 101 = .ok (.iaload, 1) := by decide +kernel
theorem dX12_paste_102 : decode cX12_paste 102 = .ok (.i2l, 1) := by decide +kernel
theorem dX12_paste_103 : decode cX12_paste 103 = .ok (.lcmp, 1) := by decide +kernel
theorem dX12_paste_104 : decode cX12_paste 104 = .ok (.ifCond .le 6, 3) := by decide +kernel
theorem dX12_paste_110 : decode cX12_paste 110 = .ok (.iconst 0, 1) := by decide +kernel
theorem dX12_paste_111 : decode cX12_paste 111 = .ok (.istore 6, 2) := by decide +kernel
theorem dX12_paste_113 : decode cX12_paste 113 = .ok (.iload 6, 2) := by decide +kernel
theorem dX12_paste_115 : decode cX12_paste 115 = .ok (.iload 5, 2) := by decide +kernel
theorem dX12_paste_117 : decode cX12_paste 117 = .ok (.if_icmp .ge 30, 3) := by decide +kernel
theorem dX12_paste_147 : decode cX12_paste 147 = .ok (.iconst 0, 1) := by decide +kernel
theorem dX12_paste_148 : decode cX12_paste 148 = .ok (.istore 6, 2) := by decide +kernel
theorem dX12_paste_150 : decode cX12_paste 150 = .ok (.iload 6, 2) := by decide +kernel
theorem dX12_paste_152 : decode cX12_paste 152 = .ok (.iload 5, 2) := by decide +kernel
theorem dX12_paste_154 : decode cX12_paste 154 = .ok (.if_icmp .ge 31, 3) := by decide +kernel
theorem dX12_paste_185 : decode cX12_paste 185 = .ok (.iconst 0, 1) := by decide +kernel
theorem dX12_paste_186 : decode cX12_paste 186 = .ok (.ireturn, 1) := by decide +kernel
theorem dX12_paste_157 : decode cX12_paste 157 = .ok (.aload_n 0, 1) := by decide +kernel
theorem dX12_paste_158 : decode cX12_paste 158 = .ok (.getfield 70, 3) := by decide +kernel
theorem dX12_paste_161 : decode cX12_paste 161 = .ok (.bipush 60, 2) := by decide +kernel
theorem dX12_paste_163 : decode cX12_paste 163 = .ok (.iload_n 3, 1) := by decide +kernel
theorem dX12_paste_164 : decode cX12_paste 164 = .ok (.imul, 1) := by decide +kernel
theorem dX12_paste_165 : decode cX12_paste 165 = .ok (.iload 4, 2) := by decide +kernel
theorem dX12_paste_167 : decode cX12_paste 167 = .ok (.iadd, 1) := by decide +kernel
theorem dX12_paste_168 : decode cX12_paste 168 = .ok (.iload 6, 2) := by decide +kernel
theorem dX12_paste_170 : decode cX12_paste 170 = .ok (.iadd, 1) := by decide +kernel
theorem dX12_paste_171 : decode cX12_paste 171 = .ok (.aload_n 0, 1) := by decide +kernel
theorem dX12_paste_172 : decode cX12_paste 172 = .ok (.getfield 74, 3) := by decide +kernel
theorem dX12_paste_175 : decode cX12_paste 175 = .ok (.iload 6, 2) := by decide +kernel
theorem dX12_paste_177 : decode cX12_paste 177 = .ok (.laload, 1) := by decide +kernel
theorem dX12_paste_178 : decode cX12_paste 178 = .ok (.lastore, 1) := by decide +kernel
theorem dX12_paste_179 : decode cX12_paste 179 = .ok (.iinc 6 1, 3) := by decide +kernel
theorem dX12_paste_182 : decode cX12_paste 182 = .ok (.goto (-32), 3) := by decide +kernel
theorem dX12_paste_120 : decode cX12_paste 120 = .ok (.aload_n 0, 1) := by decide +kernel
theorem dX12_paste_121 : decode cX12_paste 121 = .ok (.getfield 74, 3) := by decide +kernel
theorem dX12_paste_124 : decode cX12_paste 124 = .ok (.iload 6, 2) := by decide +kernel
theorem dX12_paste_126 : decode cX12_paste 126 = .ok (.aload_n 0, 1) := by decide +kernel
theorem dX12_paste_127 : decode cX12_paste 127 = .ok (.getfield 70, 3) := by decide +kernel
theorem dX12_paste_130 : decode cX12_paste 130 = .ok (.bipush 60, 2) := by decide +kernel
theorem dX12_paste_132 : decode cX12_paste 132 = .ok (.iload_n 1, 1) := by decide +kernel
theorem dX12_paste_133 : decode cX12_paste 133 = .ok (.imul, 1) := by decide +kernel
theorem dX12_paste_134 : decode cX12_paste 134 = .ok (.iload_n 2, 1) := by decide +kernel
theorem dX12_paste_135 : decode cX12_paste 135 = .ok (.iadd, 1) := by decide +kernel
theorem dX12_paste_136 : decode cX12_paste 136 = .ok (.iload 6, 2) := by decide +kernel
theorem dX12_paste_138 : decode cX12_paste 138 = .ok (.iadd, 1) := by decide +kernel
theorem dX12_paste_139 : decode cX12_paste 139 = .ok (.laload, 1) := by decide +kernel
theorem dX12_paste_140 : decode cX12_paste 140 = .ok (.lastore, 1) := by decide +kernel
theorem dX12_paste_141 : decode cX12_paste 141 = .ok (.iinc 6 1, 3) := by decide +kernel
theorem dX12_paste_144 : decode cX12_paste 144 = .ok (.goto (-31), 3) := by decide +kernel
theorem dX12_paste_55 : decode cX12_paste 55 = .ok (.bipush (-8), 2) := by decide +kernel
theorem dX12_paste_57 : decode cX12_paste 57 = .ok (.ireturn, 1) := by decide +kernel
theorem dX12_lay_0 : decode cX12_lay 0 = .ok (.iload_n 1, 1) := by decide +kernel
theorem dX12_lay_1 : decode cX12_lay 1 = .ok (.invokestatic 425, 3) := by decide +kernel
theorem dX12_lay_4 : decode cX12_lay 4 = .ok (.ifCond .eq 10, 3) := by decide +kernel
theorem dX12_lay_14 : decode cX12_lay 14 = .ok (.bipush (-2), 2) := by decide +kernel
theorem dX12_lay_16 : decode cX12_lay 16 = .ok (.ireturn, 1) := by decide +kernel
theorem dX12_lay_7 : decode cX12_lay 7 = .ok (.iload_n 2, 1) := by decide +kernel
theorem dX12_lay_8 : decode cX12_lay 8 = .ok (.invokestatic 319, 3) := by decide +kernel
theorem dX12_lay_11 : decode cX12_lay 11 = .ok (.ifCond .ne 6, 3) := by decide +kernel
theorem dX12_lay_17 : decode cX12_lay 17 = .ok (.aload_n 0, 1) := by decide +kernel
theorem dX12_lay_18 : decode cX12_lay 18 = .ok (.getfield 64, 3) := by decide +kernel
theorem dX12_lay_21 : decode cX12_lay 21 = .ok (.iload_n 1, 1) := by decide +kernel
theorem dX12_lay_22 : decode cX12_lay 22 = .ok (.iaload, 1) := by decide +kernel
theorem dX12_lay_23 : decode cX12_lay 23 = .ok (.iconst (-1), 1) := by decide +kernel
theorem dX12_lay_24 : decode cX12_lay 24 = .ok (.if_icmp .eq 11, 3) := by decide +kernel
theorem dX12_lay_35 : decode cX12_lay 35 = .ok (.bipush (-6), 2) := by decide +kernel
theorem dX12_lay_37 : decode cX12_lay 37 = .ok (.ireturn, 1) := by decide +kernel
theorem dX12_lay_27 : decode cX12_lay 27 = .ok (.aload_n 0, 1) := by decide +kernel
theorem dX12_lay_28 : decode cX12_lay 28 = .ok (.iload_n 2, 1) := by decide +kernel
theorem dX12_lay_29 : decode cX12_lay 29 = .ok (.invokevirtual 351, 3) := by decide +kernel
theorem dX12_lay_32 : decode cX12_lay 32 = .ok (.ifCond .ne 6, 3) := by decide +kernel
theorem dX12_lay_38 : decode cX12_lay 38 = .ok (.aload_n 0, 1) := by decide +kernel
theorem dX12_lay_39 : decode cX12_lay 39 = .ok (.iload_n 2, 1) := by decide +kernel
theorem dX12_lay_40 : decode cX12_lay 40 = .ok (.invokevirtual 363, 3) := by decide +kernel
theorem dX12_lay_43 : decode cX12_lay 43 = .ok (.iconst 0, 1) := by decide +kernel
theorem dX12_lay_44 : decode cX12_lay 44 = .ok (.istore_n 3, 1) := by decide +kernel
theorem dX12_lay_45 : decode cX12_lay 45 = .ok (.iconst 0, 1) := by decide +kernel
theorem dX12_lay_46 : decode cX12_lay 46 = .ok (.istore 4, 2) := by decide +kernel
theorem dX12_lay_48 : decode cX12_lay 48 = .ok (.iconst 0, 1) := by decide +kernel
theorem dX12_lay_49 : decode cX12_lay 49 = .ok (.istore 5, 2) := by decide +kernel
theorem dX12_lay_51 : decode cX12_lay 51 = .ok (.iload 5, 2) := by decide +kernel
theorem dX12_lay_53 : decode cX12_lay 53 = .ok (.aload_n 0, 1) := by decide +kernel
theorem dX12_lay_54 : decode cX12_lay 54 = .ok (.invokevirtual 203, 3) := by decide +kernel
theorem dX12_lay_57 : decode cX12_lay 57 = .ok (.if_icmp .ge 93, 3) := by decide +kernel
theorem dX12_lay_150 : decode cX12_lay 150 = .ok (.aload_n 0, 1) := by decide +kernel
theorem dX12_lay_151 : decode cX12_lay 151 = .ok (.iload_n 2, 1) := by decide +kernel
theorem dX12_lay_152 : decode cX12_lay 152 = .ok (.invokevirtual 332, 3) := by decide +kernel
theorem dX12_lay_155 : decode cX12_lay 155 = .ok (.iload 4, 2) := by decide +kernel
theorem dX12_lay_157 : decode cX12_lay 157 = .ok (.ireturn, 1) := by decide +kernel
theorem dX12_lay_60 : decode cX12_lay 60 = .ok (.iload_n 3, 1) := by decide +kernel
theorem dX12_lay_61 : decode cX12_lay 61 = .ok (.aload_n 0, 1) := by decide +kernel
theorem dX12_lay_62 : decode cX12_lay 62 = .ok (.getfield 64, 3) := by decide +kernel
theorem dX12_lay_65 : decode cX12_lay 65 = .ok (.iload_n 1, 1) := by decide +kernel
theorem dX12_lay_66 : decode cX12_lay 66 = .ok (.iaload, 1) := by decide +kernel
theorem dX12_lay_67 : decode cX12_lay 67 = .ok (.if_icmp .ge 83, 3) := by decide +kernel
theorem dX12_lay_70 : decode cX12_lay 70 = .ok (.aload_n 0, 1) := by decide +kernel
theorem dX12_lay_71 : decode cX12_lay 71 = .ok (.iload 5, 2) := by decide +kernel
theorem dX12_lay_73 : decode cX12_lay 73 = .ok (.invokevirtual 206, 3) := by decide +kernel
theorem dX12_lay_76 : decode cX12_lay 76 = .ok (.ifCond .ne 6, 3) := by decide +kernel
theorem dX12_lay_82 : decode cX12_lay 82 = .ok (.aload_n 0, 1) := by decide +kernel
theorem dX12_lay_83 : decode cX12_lay 83 = .ok (.getfield 70, 3) := by decide +kernel
theorem dX12_lay_86 : decode cX12_lay 86 = .ok (.bipush 60, 2) := by decide +kernel
theorem dX12_lay_88 : decode cX12_lay 88 = .ok (.iload_n 1, 1) := by decide +kernel
theorem dX12_lay_89 : decode cX12_lay 89 = .ok (.imul, 1) := by decide +kernel
theorem dX12_lay_90 : decode cX12_lay 90 = .ok (.iload_n 3, 1) := by decide +kernel
theorem dX12_lay_91 : decode cX12_lay 91 = .ok (.iadd, 1) := by decide +kernel
theorem dX12_lay_92 : decode cX12_lay 92 = .ok (.laload, 1) := by decide +kernel
theorem dX12_lay_93 : decode cX12_lay 93 = .ok (.lconst 0, 1) := by decide +kernel
theorem dX12_lay_94 : decode cX12_lay 94 = .ok (.lcmp, 1) := by decide +kernel
theorem dX12_lay_108 : decode cX12_lay 108 = .ok (.istore 6, 2) := by decide +kernel
theorem dX12_lay_110 : decode cX12_lay 110 = .ok (.iinc 3 1, 3) := by decide +kernel
theorem dX12_lay_113 : decode cX12_lay 113 = .ok (.iload 4, 2) := by decide +kernel
theorem dX12_lay_115 : decode cX12_lay 115 = .ok (.iload 6, 2) := by decide +kernel
theorem dX12_lay_117 : decode cX12_lay 117 = .ok (.aload_n 0, 1) := by decide +kernel
theorem dX12_lay_118 : decode cX12_lay 118 = .ok (.getfield 37, 3) := by decide +kernel
theorem dX12_lay_121 : decode cX12_lay 121 = .ok (.iload 5, 2) := by decide +kernel
theorem dX12_lay_123 : decode cX12_lay 123 = .ok (.iaload, 1) := by decide +kernel
theorem dX12_lay_124 : decode cX12_lay 124 = .ok (.if_icmp .ne 7, 3) := by decide +kernel
theorem dX12_lay_131 : decode cX12_lay 131 = .ok (.iconst 1, 1) := by decide +kernel
theorem dX12_lay_132 : decode cX12_lay 132 = .ok (.iadd, 1) := by decide +kernel
theorem dX12_lay_133 : decode cX12_lay 133 = .ok (.istore 4, 2) := by decide +kernel
theorem dX12_lay_135 : decode cX12_lay 135 = .ok (.aload_n 0, 1) := by decide +kernel
theorem dX12_lay_136 : decode cX12_lay 136 = .ok (.getfield 37, 3) := by decide +kernel
theorem dX12_lay_139 : decode cX12_lay 139 = .ok (.iload 5, 2) := by decide +kernel
theorem dX12_lay_141 : decode cX12_lay 141 = .ok (.iload 6, 2) := by decide +kernel
theorem dX12_lay_143 : decode cX12_lay 143 = .ok (.iastore, 1) := by decide +kernel
theorem dX12_lay_144 : decode cX12_lay 144 = .ok (.iinc 5 1, 3) := by decide +kernel
theorem dX12_lay_147 : decode cX12_lay 147 = .ok (.goto (-96), 3) := by decide +kernel
theorem dX12_lay_127 : decode cX12_lay 127 = .ok (.iconst 0, 1) := by decide +kernel
theorem dX12_lay_128 : decode cX12_lay 128 = .ok (.goto 4, 3) := by decide +kernel
theorem dX12_lay_95 : decode cX12_lay 95 = .ok (.ifCond .ne 7, 3) := by decide +kernel
theorem dX12_lay_102 : decode cX12_lay 102 = .ok (.aload_n 0, 1) := by decide +kernel
theorem dX12_lay_103 : decode cX12_lay 103 = .ok (.iload 5, 2) := by decide +kernel
theorem dX12_lay_105 : decode cX12_lay 105 = .ok (.invokevirtual 314, 3) := by decide +kernel
theorem dX12_lay_98 : decode cX12_lay 98 = .ok (.iconst 0, 1) := by decide +kernel
theorem dX12_lay_99 : decode cX12_lay 99 = .ok (.goto 9, 3) := by decide +kernel
theorem dX12_lay_79 : decode cX12_lay 79 = .ok (.goto 65, 3) := by decide +kernel
