theorem dX1_knitBy_39 : decode cX1_knitBy 39 = .ok (.iload 8, 2) := by decide +kernel
theorem dX1_knitBy_41 : decode cX1_knitBy 41 = .ok (.aload_n 2, 1) := by decide +kernel
theorem dX1_knitBy_42 : decode cX1_knitBy 42 = .ok (.arraylength, 1) := by decide +kernel
theorem dX1_knitBy_43 : decode cX1_knitBy 43 = .ok (.if_icmp .ge 84, 3) := by decide +kernel
theorem dX1_knitBy_46 : decode cX1_knitBy 46 = .ok (.ldc2_w 35, 3) := by decide +kernel
theorem dX1_knitBy_49 : decode cX1_knitBy 49 = .ok (.lload 4, 2) := by decide +kernel
theorem dX1_knitBy_51 : decode cX1_knitBy 51 = .ok (.lmul, 1) := by decide +kernel
theorem dX1_knitBy_52 : decode cX1_knitBy 52 = .ok (.ldc2_w 37, 3) := by decide +kernel
theorem dX1_knitBy_55 : decode cX1_knitBy 55 = .ok (.ladd, 1) := by decide +kernel
theorem dX1_knitBy_56 : decode cX1_knitBy 56 = .ok (.ldc2_w 39, 3) := by decide +kernel
theorem dX1_knitBy_59 : decode cX1_knitBy 59 = .ok (.lrem, 1) := by decide +kernel
theorem dX1_knitBy_60 : decode cX1_knitBy 60 = .ok (.lstore 4, 2) := by decide +kernel
theorem dX1_knitBy_62 : decode cX1_knitBy 62 = .ok (.lload 4, 2) := by decide +kernel
theorem dX1_knitBy_64 : decode cX1_knitBy 64 = .ok (.ldc2_w 41, 3) := by decide +kernel
theorem dX1_knitBy_67 : decode cX1_knitBy 67 = .ok (.ldiv, 1) := by decide +kernel
theorem dX1_knitBy_68 : decode cX1_knitBy 68 = .ok (.ldc2_w 43, 3) := by decide +kernel
theorem dX1_knitBy_71 : decode cX1_knitBy 71 = .ok (.lrem, 1) := by decide +kernel
theorem dX1_knitBy_72 : decode cX1_knitBy 72 = .ok (.aload_n 2, 1) := by decide +kernel
theorem dX1_knitBy_73 : decode cX1_knitBy 73 = .ok (.iload 8, 2) := by decide +kernel
theorem dX1_knitBy_75 : decode cX1_knitBy 75 = .ok (.iaload, 1) := by decide +kernel
theorem dX1_knitBy_76 : decode cX1_knitBy 76 = .ok (.i2l, 1) := by decide +kernel
theorem dX1_knitBy_77 : decode cX1_knitBy 77 = .ok (.lcmp, 1) := by decide +kernel
theorem dX1_knitBy_86 : decode cX1_knitBy 86 = .ok (.istore 9, 2) := by decide +kernel
theorem dX1_knitBy_88 : decode cX1_knitBy 88 = .ok (.aload_n 0, 1) := by decide +kernel
theorem dX1_knitBy_89 : decode cX1_knitBy 89 = .ok (.iload 7, 2) := by decide +kernel
theorem dX1_knitBy_91 : decode cX1_knitBy 91 = .ok (.iload 9, 2) := by decide +kernel
theorem dX1_knitBy_106 : decode cX1_knitBy 106 = .ok (.invokevirtual 48, 3) := by decide +kernel
theorem dX1_knitBy_109 : decode cX1_knitBy 109 = .ok (.iload 6, 2) := by decide +kernel
theorem dX1_knitBy_111 : decode cX1_knitBy 111 = .ok (.iload 9, 2) := by decide +kernel
theorem dX1_knitBy_113 : decode cX1_knitBy 113 = .ok (.ifCond .eq 7, 3) := by decide +kernel
theorem dX1_knitBy_120 : decode cX1_knitBy 120 = .ok (.iconst 1, 1) := by decide +kernel
theorem dX1_knitBy_121 : decode cX1_knitBy 121 = .ok (.iadd, 1) := by decide +kernel
theorem dX1_knitBy_122 : decode cX1_knitBy 122 = .ok (.istore 6, 2) := by decide +kernel
theorem dX1_knitBy_124 : decode cX1_knitBy 124 = .ok (.goto 20, 3) := by decide +kernel
theorem dX1_knitBy_116 : decode cX1_knitBy 116 = .ok (.iconst 0, 1) := by decide +kernel
theorem dX1_knitBy_117 : decode cX1_knitBy 117 = .ok (.goto 4, 3) := by decide +kernel
theorem dX1_knitBy_93 : decode cX1_knitBy 93 = .ok (.ifCond .eq 7, 3) := by decide +kernel
theorem dX1_knitBy_100 : decode cX1_knitBy 100 = .ok (.aload_n 1, 1) := by decide +kernel
theorem dX1_knitBy_101 : decode cX1_knitBy 101 = .ok (.iload 7, 2) := by decide +kernel
theorem dX1_knitBy_103 : decode cX1_knitBy 103 = .ok (.invokevirtual 45, 3) := by decide +kernel
theorem dX1_knitBy_96 : decode cX1_knitBy 96 = .ok (.iconst 0, 1) := by decide +kernel
theorem dX1_knitBy_97 : decode cX1_knitBy 97 = .ok (.goto 9, 3) := by decide +kernel
theorem dX1_knitBy_78 : decode cX1_knitBy 78 = .ok (.ifCond .lt 7, 3) := by decide +kernel
theorem dX1_knitBy_85 : decode cX1_knitBy 85 = .ok (.iconst 0, 1) := by decide +kernel
theorem dX1_knitBy_81 : decode cX1_knitBy 81 = .ok (.iconst 1, 1) := by decide +kernel
theorem dX1_knitBy_82 : decode cX1_knitBy 82 = .ok (.goto 4, 3) := by decide +kernel
theorem dX1_knitBackFrom_0 : decode cX1_knitBackFrom 0 = .ok (.aload_n 0, 1) := by decide +kernel
theorem dX1_knitBackFrom_1 : decode cX1_knitBackFrom 1 = .ok (.iconst 1, 1) := by decide +kernel
theorem dX1_knitBackFrom_2 : decode cX1_knitBackFrom 2 = .ok (.putfield 21, 3) := by decide +kernel
theorem dX1_knitBackFrom_5 : decode cX1_knitBackFrom 5 = .ok (.iconst 0, 1) := by decide +kernel
theorem dX1_knitBackFrom_6 : decode cX1_knitBackFrom 6 = .ok (.istore_n 3, 1) := by decide +kernel
theorem dX1_knitBackFrom_7 : decode cX1_knitBackFrom 7 = .ok (.iconst 0, 1) := by decide +kernel
theorem dX1_knitBackFrom_8 : decode cX1_knitBackFrom 8 = .ok (.istore 4, 2) := by decide +kernel
theorem dX1_knitBackFrom_10 : decode cX1_knitBackFrom 10 = .ok (.iload 4, 2) := by decide +kernel
theorem dX1_knitBackFrom_12 : decode cX1_knitBackFrom 12 = .ok (.aload_n 2, 1) := by decide +kernel
theorem dX1_knitBackFrom_13 : decode cX1_knitBackFrom 13 = .ok (.invokevirtual 25, 3) := by decide +kernel
theorem dX1_knitBackFrom_16 : decode cX1_knitBackFrom 16 = .ok (.if_icmp .ge 41, 3) := by decide +kernel
theorem dX1_knitBackFrom_57 : decode cX1_knitBackFrom 57 = .ok (.iload_n 3, 1) := by decide +kernel
theorem dX1_knitBackFrom_58 : decode cX1_knitBackFrom 58 = .ok (.istore 4, 2) := by decide +kernel
theorem dX1_knitBackFrom_60 : decode cX1_knitBackFrom 60 = .ok (.iload 4, 2) := by decide +kernel
theorem dX1_knitBackFrom_62 : decode cX1_knitBackFrom 62 = .ok (.aload_n 2, 1) := by decide +kernel
theorem dX1_knitBackFrom_63 : decode cX1_knitBackFrom 63 = .ok (.invokevirtual 25, 3) := by decide +kernel
theorem dX1_knitBackFrom_66 : decode cX1_knitBackFrom 66 = .ok (.if_icmp .ge 20, 3) := by decide +kernel
theorem dX1_knitBackFrom_86 : decode cX1_knitBackFrom 86 = .ok (.return_, 1) := by decide +kernel
theorem dX1_knitBackFrom_69 : decode cX1_knitBackFrom 69 = .ok (.aload_n 0, 1) := by decide +kernel
theorem dX1_knitBackFrom_70 : decode cX1_knitBackFrom 70 = .ok (.aload_n 2, 1) := by decide +kernel
theorem dX1_knitBackFrom_71 : decode cX1_knitBackFrom 71 = .ok (.iload 4, 2) := by decide +kernel
theorem dX1_knitBackFrom_73 : decode cX1_knitBackFrom 73 = .ok (.invokevirtual 52, 3) := by decide +kernel
theorem dX1_knitBackFrom_76 : decode cX1_knitBackFrom 76 = .ok (.iconst 4, 1) := by decide +kernel
theorem dX1_knitBackFrom_77 : decode cX1_knitBackFrom 77 = .ok (.invokevirtual 48, 3) := by decide +kernel
theorem dX1_knitBackFrom_80 : decode cX1_knitBackFrom 80 = .ok (.iinc 4 1, 3) := by decide +kernel
theorem dX1_knitBackFrom_83 : decode cX1_knitBackFrom 83 = .ok (.goto (-23), 3) := by decide +kernel
theorem dX1_knitBackFrom_19 : decode cX1_knitBackFrom 19 = .ok (.aload_n 1, 1) := by decide +kernel
theorem dX1_knitBackFrom_20 : decode cX1_knitBackFrom 20 = .ok (.aload_n 2, 1) := by decide +kernel
theorem dX1_knitBackFrom_21 : decode cX1_knitBackFrom 21 = .ok (.iload 4, 2) := by decide +kernel
theorem dX1_knitBackFrom_23 : decode cX1_knitBackFrom 23 = .ok (.invokevirtual 52, 3) := by decide +kernel
theorem dX1_knitBackFrom_26 : decode cX1_knitBackFrom 26 = .ok (.invokevirtual 55, 3) := by decide +kernel
theorem dX1_knitBackFrom_29 : decode cX1_knitBackFrom 29 = .ok (.istore 5, 2) := by decide +kernel
theorem dX1_knitBackFrom_31 : decode cX1_knitBackFrom 31 = .ok (.iload 5, 2) := by decide +kernel
theorem dX1_knitBackFrom_33 : decode cX1_knitBackFrom 33 = .ok (.iconst 4, 1) := by decide +kernel
theorem dX1_knitBackFrom_34 : decode cX1_knitBackFrom 34 = .ok (.if_icmp .eq 17, 3) := by decide +kernel
theorem dX1_knitBackFrom_51 : decode cX1_knitBackFrom 51 = .ok (.iinc 4 1, 3) := by decide +kernel
theorem dX1_knitBackFrom_54 : decode cX1_knitBackFrom 54 = .ok (.goto (-44), 3) := by decide +kernel
theorem dX1_knitBackFrom_37 : decode cX1_knitBackFrom 37 = .ok (.aload_n 0, 1) := by decide +kernel
theorem dX1_knitBackFrom_38 : decode cX1_knitBackFrom 38 = .ok (.aload_n 2, 1) := by decide +kernel
theorem dX1_knitBackFrom_39 : decode cX1_knitBackFrom 39 = .ok (.iload_n 3, 1) := by decide +kernel
theorem dX1_knitBackFrom_40 : decode cX1_knitBackFrom 40 = .ok (.invokevirtual 52, 3) := by decide +kernel
theorem dX1_knitBackFrom_43 : decode cX1_knitBackFrom 43 = .ok (.iload 5, 2) := by decide +kernel
theorem dX1_knitBackFrom_45 : decode cX1_knitBackFrom 45 = .ok (.invokevirtual 48, 3) := by decide +kernel
theorem dX1_knitBackFrom_48 : decode cX1_knitBackFrom 48 = .ok (.iinc 3 1, 3) := by decide +kernel
theorem dX1_placesUnlike_0 : decode cX1_placesUnlike 0 = .ok (.iconst 0, 1) := by decide +kernel
theorem dX1_placesUnlike_1 : decode cX1_placesUnlike 1 = .ok (.istore_n 3, 1) := by decide +kernel
theorem dX1_placesUnlike_2 : decode cX1_placesUnlike 2 = .ok (.iconst 0, 1) := by decide +kernel
theorem dX1_placesUnlike_3 : decode cX1_placesUnlike 3 = .ok (.istore 4, 2) := by decide +kernel
theorem dX1_placesUnlike_5 : decode cX1_placesUnlike 5 = .ok (.iload 4, 2) := by decide +kernel
theorem dX1_placesUnlike_7 : decode cX1_placesUnlike 7 = .ok (.aload_n 2, 1) := by decide +kernel
theorem dX1_placesUnlike_8 : decode cX1_placesUnlike 8 = .ok (.invokevirtual 25, 3) := by decide +kernel
theorem dX1_placesUnlike_11 : decode cX1_placesUnlike 11 = .ok (.if_icmp .ge 27, 3) := by decide +kernel
theorem dX1_placesUnlike_38 : decode cX1_placesUnlike 38 = .ok (.iload_n 3, 1) := by decide +kernel
theorem dX1_placesUnlike_39 : decode cX1_placesUnlike 39 = .ok (.ireturn, 1) := by decide +kernel
theorem dX1_placesUnlike_14 : decode cX1_placesUnlike 14 = .ok (.aload_n 0, 1) := by decide +kernel
theorem dX1_placesUnlike_15 : decode cX1_placesUnlike 15 = .ok (.iload 4, 2) := by decide +kernel
theorem dX1_placesUnlike_17 : decode cX1_placesUnlike 17 = .ok (.invokevirtual 55, 3) := by decide +kernel
theorem dX1_placesUnlike_20 : decode cX1_placesUnlike 20 = .ok (.aload_n 1, 1) := by decide +kernel
theorem dX1_placesUnlike_21 : decode cX1_placesUnlike 21 = .ok (.iload 4, 2) := by decide +kernel
theorem dX1_placesUnlike_23 : decode cX1_placesUnlike 23 = .ok (.invokevirtual 55, 3) := by decide +kernel
theorem dX1_placesUnlike_26 : decode cX1_placesUnlike 26 = .ok (.if_icmp .eq 6, 3) := by decide +kernel
theorem dX1_placesUnlike_32 : decode cX1_placesUnlike 32 = .ok (.iinc 4 1, 3) := by decide +kernel
theorem dX1_placesUnlike_35 : decode cX1_placesUnlike 35 = .ok (.goto (-30), 3) := by decide +kernel
theorem dX1_placesUnlike_29 : decode cX1_placesUnlike 29 = .ok (.iinc 3 1, 3) := by decide +kernel
theorem dX1_lostPlaces_0 : decode cX1_lostPlaces 0 = .ok (.iconst 0, 1) := by decide +kernel
theorem dX1_lostPlaces_1 : decode cX1_lostPlaces 1 = .ok (.istore_n 2, 1) := by decide +kernel
theorem dX1_lostPlaces_2 : decode cX1_lostPlaces 2 = .ok (.iconst 0, 1) := by decide +kernel
theorem dX1_lostPlaces_3 : decode cX1_lostPlaces 3 = .ok (.istore_n 3, 1) := by decide +kernel
theorem dX1_lostPlaces_4 : decode cX1_lostPlaces 4 = .ok (.iload_n 3, 1) := by decide +kernel
theorem dX1_lostPlaces_5 : decode cX1_lostPlaces 5 = .ok (.aload_n 1, 1) := by decide +kernel
theorem dX1_lostPlaces_6 : decode cX1_lostPlaces 6 = .ok (.invokevirtual 25, 3) := by decide +kernel
theorem dX1_lostPlaces_9 : decode cX1_lostPlaces 9 = .ok (.if_icmp .ge 21, 3) := by decide +kernel
theorem dX1_lostPlaces_30 : decode cX1_lostPlaces 30 = .ok (.iload_n 2, 1) := by decide +kernel
theorem dX1_lostPlaces_31 : decode cX1_lostPlaces 31 = .ok (.ireturn, 1) := by decide +kernel
theorem dX1_lostPlaces_12 : decode cX1_lostPlaces 12 = .ok (.aload_n 0, 1) := by decide +kernel
theorem dX1_lostPlaces_13 : decode cX1_lostPlaces 13 = .ok (.iload_n 3, 1) := by decide +kernel
theorem dX1_lostPlaces_14 : decode cX1_lostPlaces 14 = .ok (.invokevirtual 55, 3) := by decide +kernel
theorem dX1_lostPlaces_17 : decode cX1_lostPlaces 17 = .ok (.iconst 4, 1) := by decide +kernel
theorem dX1_lostPlaces_18 : decode cX1_lostPlaces 18 = .ok (.if_icmp .ne 6, 3) := by decide +kernel
theorem dX1_lostPlaces_24 : decode cX1_lostPlaces 24 = .ok (.iinc 3 1, 3) := by decide +kernel
theorem dX1_lostPlaces_27 : decode cX1_lostPlaces 27 = .ok (.goto (-23), 3) := by decide +kernel
theorem dX1_lostPlaces_21 : decode cX1_lostPlaces 21 = .ok (.iinc 2 1, 3) := by decide +kernel
theorem dX8_addPlace_0 : decode cX8_addPlace 0 = .ok (.aload_n 0, 1) := by decide +kernel
theorem dX8_addPlace_1 : decode cX8_addPlace 1 = .ok (.getfield 22, 3) := by decide +kernel
theorem dX8_addPlace_4 : decode cX8_addPlace 4 = .ok (.sipush 256, 3) := by decide +kernel
theorem dX8_addPlace_7 : decode cX8_addPlace 7 = .ok (.if_icmp .ge 23, 3) := by decide +kernel
theorem dX8_addPlace_30 : decode cX8_addPlace 30 = .ok (.return_, 1) := by decide +kernel
theorem dX8_addPlace_10 : decode cX8_addPlace 10 = .ok (.aload_n 0, 1) := by decide +kernel
theorem dX8_addPlace_11 : decode cX8_addPlace 11 = .ok (.getfield 9, 3) := by decide +kernel
theorem dX8_addPlace_14 : decode cX8_addPlace 14 = .ok (.aload_n 0, 1) := by decide +kernel
theorem dX8_addPlace_15 : decode cX8_addPlace 15 = .ok (.getfield 22, 3) := by decide +kernel
theorem dX8_addPlace_18 : decode cX8_addPlace 18 = .ok (.iload_n 1, 1) := by decide +kernel
theorem dX8_addPlace_19 : decode cX8_addPlace 19 = .ok (.iastore, 1) := by decide +kernel
theorem dX8_addPlace_20 : decode cX8_addPlace 20 = .ok (.aload_n 0, 1) := by decide +kernel
theorem dX8_addPlace_21 : decode cX8_addPlace 21 = .ok (.dup, 1) := by decide +kernel
theorem dX8_addPlace_22 : decode cX8_addPlace 22 = .ok (.getfield 22, 3) := by decide +kernel
theorem dX8_addPlace_25 : decode cX8_addPlace 25 = .ok (.iconst 1, 1) := by decide +kernel
theorem dX8_addPlace_26 : decode cX8_addPlace 26 = .ok (.iadd, 1) := by decide +kernel
theorem dX8_addPlace_27 : decode cX8_addPlace 27 = .ok (.putfield 22, 3) := by decide +kernel
theorem dX8_follow_0 : decode cX8_follow 0 = .ok (.aload_n 0, 1) := by decide +kernel
theorem dX8_follow_1 : decode cX8_follow 1 = .ok (.iconst 0, 1) := by decide +kernel
theorem dX8_follow_2 : decode cX8_follow 2 = .ok (.putfield 22, 3) := by decide +kernel
theorem dX8_follow_5 : decode cX8_follow 5 = .ok (.aload_n 1, 1) := by decide +kernel
theorem dX8_follow_6 : decode cX8_follow 6 = .ok (.getfield 25, 3) := by decide +kernel
theorem dX8_follow_9 : decode cX8_follow 9 = .ok (.istore_n 3, 1) := by decide +kernel
theorem dX8_follow_10 : decode cX8_follow 10 = .ok (.iconst 0, 1) := by decide +kernel
theorem dX8_follow_11 : decode cX8_follow 11 = .ok (.istore 4, 2) := by decide +kernel
theorem dX8_follow_13 : decode cX8_follow 13 = .ok (.iload 4, 2) := by decide +kernel
theorem dX8_follow_15 : decode cX8_follow 15 = .ok (.aload_n 2, 1) := by decide +kernel
theorem dX8_follow_16 : decode cX8_follow 16 = .ok (.getfield 30, 3) := by decide +kernel
theorem dX8_follow_19 : decode cX8_follow 19 = .ok (.if_icmp .ge 130, 3) := by decide +kernel
theorem dX8_follow_149 : decode cX8_follow 149 = .ok (.aload_n 0, 1) := by decide +kernel
theorem dX8_follow_150 : decode cX8_follow 150 = .ok (.iconst 1, 1) := by decide +kernel
theorem dX8_follow_151 : decode cX8_follow 151 = .ok (.aload_n 1, 1) := by decide +kernel
theorem dX8_follow_152 : decode cX8_follow 152 = .ok (.getfield 61, 3) := by decide +kernel
theorem dX8_follow_155 : decode cX8_follow 155 = .ok (.invokestatic 62, 3) := by decide +kernel
theorem dX8_follow_158 : decode cX8_follow 158 = .ok (.putfield 15, 3) := by decide +kernel
theorem dX8_follow_161 : decode cX8_follow 161 = .ok (.aload_n 0, 1) := by decide +kernel
theorem dX8_follow_162 : decode cX8_follow 162 = .ok (.iconst 1, 1) := by decide +kernel
theorem dX8_follow_163 : decode cX8_follow 163 = .ok (.aload_n 1, 1) := by decide +kernel
theorem dX8_follow_164 : decode cX8_follow 164 = .ok (.getfield 67, 3) := by decide +kernel
theorem dX8_follow_167 : decode cX8_follow 167 = .ok (.invokestatic 62, 3) := by decide +kernel
theorem dX8_follow_170 : decode cX8_follow 170 = .ok (.putfield 19, 3) := by decide +kernel
theorem dX8_follow_173 : decode cX8_follow 173 = .ok (.aload_n 0, 1) := by decide +kernel
theorem dX8_follow_174 : decode cX8_follow 174 = .ok (.aload_n 0, 1) := by decide +kernel
theorem dX8_follow_175 : decode cX8_follow 175 = .ok (.getfield 22, 3) := by decide +kernel
theorem dX8_follow_178 : decode cX8_follow 178 = .ok (.aload_n 0, 1) := by decide +kernel
theorem dX8_follow_179 : decode cX8_follow 179 = .ok (.getfield 15, 3) := by decide +kernel
theorem dX8_follow_182 : decode cX8_follow 182 = .ok (.aload_n 0, 1) := by decide +kernel
theorem dX8_follow_183 : decode cX8_follow 183 = .ok (.getfield 19, 3) := by decide +kernel
theorem dX8_follow_186 : decode cX8_follow 186 = .ok (.imul, 1) := by decide +kernel
theorem dX8_follow_187 : decode cX8_follow 187 = .ok (.idiv, 1) := by decide +kernel
theorem dX8_follow_188 : decode cX8_follow 188 = .ok (.putfield 68, 3) := by decide +kernel
theorem dX8_follow_191 : decode cX8_follow 191 = .ok (.return_, 1) := by decide +kernel
theorem dX8_follow_22 : decode cX8_follow 22 = .ok (.aload_n 1, 1) := by decide +kernel
theorem dX8_follow_23 : decode cX8_follow 23 = .ok (.getfield 35, 3) := by decide +kernel
theorem dX8_follow_43 : decode cX8_follow 43 = .ok (.istore 5, 2) := by decide +kernel
theorem dX8_follow_45 : decode cX8_follow 45 = .ok (.aload_n 1, 1) := by decide +kernel
theorem dX8_follow_46 : decode cX8_follow 46 = .ok (.getfield 39, 3) := by decide +kernel
theorem dX8_follow_65 : decode cX8_follow 65 = .ok (.istore 6, 2) := by decide +kernel
theorem dX8_follow_67 : decode cX8_follow 67 = .ok (.iconst 0, 1) := by decide +kernel
theorem dX8_follow_68 : decode cX8_follow 68 = .ok (.istore 7, 2) := by decide +kernel
theorem dX8_follow_70 : decode cX8_follow 70 = .ok (.iload 7, 2) := by decide +kernel
theorem dX8_follow_72 : decode cX8_follow 72 = .ok (.aload_n 2, 1) := by decide +kernel
theorem dX8_follow_73 : decode cX8_follow 73 = .ok (.getfield 42, 3) := by decide +kernel
theorem dX8_follow_76 : decode cX8_follow 76 = .ok (.if_icmp .ge 67, 3) := by decide +kernel
theorem dX8_follow_143 : decode cX8_follow 143 = .ok (.iinc 4 1, 3) := by decide +kernel
theorem dX8_follow_146 : decode cX8_follow 146 = .ok (.goto (-133), 3) := by decide +kernel
theorem dX8_follow_79 : decode cX8_follow 79 = .ok (.aload_n 2, 1) := by decide +kernel
theorem dX8_follow_80 : decode cX8_follow 80 = .ok (.iload 5, 2) := by decide +kernel
theorem dX8_follow_82 : decode cX8_follow 82 = .ok (.iload 6, 2) := by decide +kernel
theorem dX8_follow_101 : decode cX8_follow 101 = .ok (.invokevirtual 45, 3) := by decide +kernel
theorem dX8_follow_104 : decode cX8_follow 104 = .ok (.istore 8, 2) := by decide +kernel
theorem dX8_follow_106 : decode cX8_follow 106 = .ok (.aload_n 1, 1) := by decide +kernel
theorem dX8_follow_107 : decode cX8_follow 107 = .ok (.aload_n 2, 1) := by decide +kernel
theorem dX8_follow_108 : decode cX8_follow 108 = .ok (.iload 8, 2) := by decide +kernel
theorem dX8_follow_110 : decode cX8_follow 110 = .ok (.invokevirtual 49, 3) := by decide +kernel
theorem dX8_follow_113 : decode cX8_follow 113 = .ok (.invokevirtual 53, 3) := by decide +kernel
theorem dX8_follow_116 : decode cX8_follow 116 = .ok (.ifCond .eq 21, 3) := by decide +kernel
theorem dX8_follow_137 : decode cX8_follow 137 = .ok (.iinc 7 1, 3) := by decide +kernel
theorem dX8_follow_140 : decode cX8_follow 140 = .ok (.goto (-70), 3) := by decide +kernel
theorem dX8_follow_119 : decode cX8_follow 119 = .ok (.iinc 3 (-1), 3) := by decide +kernel
theorem dX8_follow_122 : decode cX8_follow 122 = .ok (.iload_n 3, 1) := by decide +kernel
theorem dX8_follow_123 : decode cX8_follow 123 = .ok (.ifCond .ne 14, 3) := by decide +kernel
theorem dX8_follow_126 : decode cX8_follow 126 = .ok (.aload_n 0, 1) := by decide +kernel
theorem dX8_follow_127 : decode cX8_follow 127 = .ok (.iload 8, 2) := by decide +kernel
theorem dX8_follow_129 : decode cX8_follow 129 = .ok (.invokevirtual 57, 3) := by decide +kernel
theorem dX8_follow_132 : decode cX8_follow 132 = .ok (.aload_n 1, 1) := by decide +kernel
theorem dX8_follow_133 : decode cX8_follow 133 = .ok (.getfield 25, 3) := by decide +kernel
theorem dX8_follow_136 : decode cX8_follow 136 = .ok (.istore_n 3, 1) := by decide +kernel
theorem dX8_follow_84 : decode cX8_follow 84 = .ok (.ifCond .eq 15, 3) := by decide +kernel
theorem dX8_follow_99 : decode cX8_follow 99 = .ok (.iload 7, 2) := by decide +kernel
theorem dX8_follow_87 : decode cX8_follow 87 = .ok (.aload_n 2, 1) := by decide +kernel
theorem dX8_follow_88 : decode cX8_follow 88 = .ok (.getfield 42, 3) := by decide +kernel
theorem dX8_follow_91 : decode cX8_follow 91 = .ok (.iconst 1, 1) := by decide +kernel
theorem dX8_follow_92 : decode cX8_follow 92 = .ok (.isub, 1) := by decide +kernel
theorem dX8_follow_93 : decode cX8_follow 93 = .ok (.iload 7, 2) := by decide +kernel
theorem dX8_follow_95 : decode cX8_follow 95 = .ok (.isub, 1) := by decide +kernel
theorem dX8_follow_96 : decode cX8_follow 96 = .ok (.goto 5, 3) := by decide +kernel
theorem dX8_follow_49 : decode cX8_follow 49 = .ok (.ifCond .eq 15, 3) := by decide +kernel
theorem dX8_follow_64 : decode cX8_follow 64 = .ok (.iconst 0, 1) := by decide +kernel
theorem dX8_follow_52 : decode cX8_follow 52 = .ok (.iload 5, 2) := by decide +kernel
theorem dX8_follow_54 : decode cX8_follow 54 = .ok (.iconst 2, 1) := by decide +kernel
theorem dX8_follow_55 : decode cX8_follow 55 = .ok (.irem, 1) := by decide +kernel
theorem dX8_follow_56 : decode cX8_follow 56 = .ok (.iconst 1, 1) := by decide +kernel
theorem dX8_follow_57 : decode cX8_follow 57 = .ok (.if_icmp .ne 7, 3) := by decide +kernel
theorem dX8_follow_60 : decode cX8_follow 60 = .ok (.iconst 1, 1) := by decide +kernel
theorem dX8_follow_61 : decode cX8_follow 61 = .ok (.goto 4, 3) := by decide +kernel
theorem dX8_follow_26 : decode cX8_follow 26 = .ok (.ifCond .eq 15, 3) := by decide +kernel
theorem dX8_follow_41 : decode cX8_follow 41 = .ok (.iload 4, 2) := by decide +kernel
theorem dX8_follow_29 : decode cX8_follow 29 = .ok (.aload_n 2, 1) := by decide +kernel
theorem dX8_follow_30 : decode cX8_follow 30 = .ok (.getfield 30, 3) := by decide +kernel
theorem dX8_follow_33 : decode cX8_follow 33 = .ok (.iconst 1, 1) := by decide +kernel
theorem dX8_follow_34 : decode cX8_follow 34 = .ok (.isub, 1) := by decide +kernel
theorem dX8_follow_35 : decode cX8_follow 35 = .ok (.iload 4, 2) := by decide +kernel
theorem dX8_follow_37 : decode cX8_follow 37 = .ok (.isub, 1) := by decide +kernel
theorem dX8_follow_38 : decode cX8_follow 38 = .ok (.goto 5, 3) := by decide +kernel
theorem dX8_hasRoomFor_0 : decode cX8_hasRoomFor 0 = .ok (.iconst 5, 1) := by decide +kernel
theorem dX8_hasRoomFor_1 : decode cX8_hasRoomFor 1 = .ok (.iload_n 1, 1) := by decide +kernel
theorem dX8_hasRoomFor_2 : decode cX8_hasRoomFor 2 = .ok (.iconst 1, 1) := by decide +kernel
theorem dX8_hasRoomFor_3 : decode cX8_hasRoomFor 3 = .ok (.iadd, 1) := by decide +kernel
theorem dX8_hasRoomFor_4 : decode cX8_hasRoomFor 4 = .ok (.imul, 1) := by decide +kernel
theorem dX8_hasRoomFor_5 : decode cX8_hasRoomFor 5 = .ok (.aload_n 0, 1) := by decide +kernel
theorem dX8_hasRoomFor_6 : decode cX8_hasRoomFor 6 = .ok (.getfield 68, 3) := by decide +kernel
theorem dX8_hasRoomFor_9 : decode cX8_hasRoomFor 9 = .ok (.if_icmp .gt 7, 3) := by decide +kernel
theorem dX8_hasRoomFor_16 : decode cX8_hasRoomFor 16 = .ok (.iconst 0, 1) := by decide +kernel
theorem dX8_hasRoomFor_17 : decode cX8_hasRoomFor 17 = .ok (.ireturn, 1) := by decide +kernel
theorem dX8_hasRoomFor_12 : decode cX8_hasRoomFor 12 = .ok (.iconst 1, 1) := by decide +kernel
theorem dX8_hasRoomFor_13 : decode cX8_hasRoomFor 13 = .ok (.goto 4, 3) := by decide +kernel
theorem dJ7_fill_53178_0 : decode cJ7_fill_53178 0 = .ok (.iconst 0, 1) := by decide +kernel
theorem dJ7_fill_53178_1 : decode cJ7_fill_53178 1 = .ok (.istore_n 2, 1) := by decide +kernel
theorem dJ7_fill_53178_2 : decode cJ7_fill_53178 2 = .ok (.aload_n 0, 1) := by decide +kernel
theorem dJ7_fill_53178_3 : decode cJ7_fill_53178 3 = .ok (.arraylength, 1) := by decide +kernel
theorem dJ7_fill_53178_4 : decode cJ7_fill_53178 4 = .ok (.istore_n 3, 1) := by decide +kernel
theorem dJ7_fill_53178_5 : decode cJ7_fill_53178 5 = .ok (.iload_n 2, 1) := by decide +kernel
theorem dJ7_fill_53178_6 : decode cJ7_fill_53178 6 = .ok (.iload_n 3, 1) := by decide +kernel
theorem dJ7_fill_53178_7 : decode cJ7_fill_53178 7 = .ok (.if_icmp .ge 13, 3) := by decide +kernel
theorem dJ7_fill_53178_20 : decode cJ7_fill_53178 20 = .ok (.return_, 1) := by decide +kernel
theorem dJ7_fill_53178_10 : decode cJ7_fill_53178 10 = .ok (.aload_n 0, 1) := by decide +kernel
theorem dJ7_fill_53178_11 : decode cJ7_fill_53178 11 = .ok (.iload_n 2, 1) := by decide +kernel
theorem dJ7_fill_53178_12 : decode cJ7_fill_53178 12 = .ok (.iload_n 1, 1) := by decide +kernel
theorem dJ7_fill_53178_13 : decode cJ7_fill_53178 13 = .ok (.iastore, 1) := by decide +kernel
theorem dJ7_fill_53178_14 : decode cJ7_fill_53178 14 = .ok (.iinc 2 1, 3) := by decide +kernel
theorem dJ7_fill_53178_17 : decode cJ7_fill_53178 17 = .ok (.goto (-12), 3) := by decide +kernel
theorem dX6_addStitch_0 : decode cX6_addStitch 0 = .ok (.aload_n 0, 1) := by decide +kernel
theorem dX6_addStitch_1 : decode cX6_addStitch 1 = .ok (.getfield 12, 3) := by decide +kernel
theorem dX6_addStitch_4 : decode cX6_addStitch 4 = .ok (.iload_n 1, 1) := by decide +kernel
theorem dX6_addStitch_5 : decode cX6_addStitch 5 = .ok (.invokevirtual 90, 3) := by decide +kernel
theorem dX6_addStitch_8 : decode cX6_addStitch 8 = .ok (.istore_n 3, 1) := by decide +kernel
theorem dX6_addStitch_9 : decode cX6_addStitch 9 = .ok (.aload_n 0, 1) := by decide +kernel
theorem dX6_addStitch_10 : decode cX6_addStitch 10 = .ok (.getfield 47, 3) := by decide +kernel
theorem dX6_addStitch_26 : decode cX6_addStitch 26 = .ok (.istore 4, 2) := by decide +kernel
theorem dX6_addStitch_28 : decode cX6_addStitch 28 = .ok (.iload_n 3, 1) := by decide +kernel
theorem dX6_addStitch_29 : decode cX6_addStitch 29 = .ok (.ifCond .le 41, 3) := by decide +kernel
theorem dX6_addStitch_70 : decode cX6_addStitch 70 = .ok (.return_, 1) := by decide +kernel
theorem dX6_addStitch_32 : decode cX6_addStitch 32 = .ok (.iload_n 3, 1) := by decide +kernel
theorem dX6_addStitch_33 : decode cX6_addStitch 33 = .ok (.iconst 4, 1) := by decide +kernel
theorem dX6_addStitch_34 : decode cX6_addStitch 34 = .ok (.if_icmp .ge 36, 3) := by decide +kernel
theorem dX6_addStitch_37 : decode cX6_addStitch 37 = .ok (.iload 4, 2) := by decide +kernel
theorem dX6_addStitch_39 : decode cX6_addStitch 39 = .ok (.ifCond .lt 31, 3) := by decide +kernel
theorem dX6_addStitch_42 : decode cX6_addStitch 42 = .ok (.iload 4, 2) := by decide +kernel
theorem dX6_addStitch_44 : decode cX6_addStitch 44 = .ok (.bipush 16, 2) := by decide +kernel
theorem dX6_addStitch_46 : decode cX6_addStitch 46 = .ok (.if_icmp .ge 24, 3) := by decide +kernel
theorem dX6_addStitch_49 : decode cX6_addStitch 49 = .ok (.aload_n 0, 1) := by decide +kernel
theorem dX6_addStitch_50 : decode cX6_addStitch 50 = .ok (.getfield 18, 3) := by decide +kernel
theorem dX6_addStitch_53 : decode cX6_addStitch 53 = .ok (.iload_n 3, 1) := by decide +kernel
theorem dX6_addStitch_54 : decode cX6_addStitch 54 = .ok (.dup2, 1) := by decide +kernel
theorem dX6_addStitch_55 : decode cX6_addStitch 55 = .ok (.iaload, 1) := by decide +kernel
theorem dX6_addStitch_56 : decode cX6_addStitch 56 = .ok (.iload_n 2, 1) := by decide +kernel
theorem dX6_addStitch_57 : decode cX6_addStitch 57 = .ok (.iadd, 1) := by decide +kernel
theorem dX6_addStitch_58 : decode cX6_addStitch 58 = .ok (.iastore, 1) := by decide +kernel
theorem dX6_addStitch_59 : decode cX6_addStitch 59 = .ok (.aload_n 0, 1) := by decide +kernel
theorem dX6_addStitch_60 : decode cX6_addStitch 60 = .ok (.getfield 22, 3) := by decide +kernel
theorem dX6_addStitch_63 : decode cX6_addStitch 63 = .ok (.iload 4, 2) := by decide +kernel
theorem dX6_addStitch_65 : decode cX6_addStitch 65 = .ok (.dup2, 1) := by decide +kernel
theorem dX6_addStitch_66 : decode cX6_addStitch 66 = .ok (.iaload, 1) := by decide +kernel
theorem dX6_addStitch_67 : decode cX6_addStitch 67 = .ok (.iload_n 2, 1) := by decide +kernel
theorem dX6_addStitch_68 : decode cX6_addStitch 68 = .ok (.iadd, 1) := by decide +kernel
theorem dX6_addStitch_69 : decode cX6_addStitch 69 = .ok (.iastore, 1) := by decide +kernel
theorem dX6_addStitch_13 : decode cX6_addStitch 13 = .ok (.ifCond .le 12, 3) := by decide +kernel
theorem dX6_addStitch_25 : decode cX6_addStitch 25 = .ok (.iconst (-1), 1) := by decide +kernel
theorem dX6_addStitch_16 : decode cX6_addStitch 16 = .ok (.iload_n 1, 1) := by decide +kernel
theorem dX6_addStitch_17 : decode cX6_addStitch 17 = .ok (.aload_n 0, 1) := by decide +kernel
theorem dX6_addStitch_18 : decode cX6_addStitch 18 = .ok (.getfield 47, 3) := by decide +kernel
theorem dX6_addStitch_21 : decode cX6_addStitch 21 = .ok (.idiv, 1) := by decide +kernel
theorem dX6_addStitch_22 : decode cX6_addStitch 22 = .ok (.goto 4, 3) := by decide +kernel
theorem dX6_link_0 : decode cX6_link 0 = .ok (.iload_n 1, 1) := by decide +kernel
theorem dX6_link_1 : decode cX6_link 1 = .ok (.ifCond .lt 35, 3) := by decide +kernel
theorem dX6_link_36 : decode cX6_link 36 = .ok (.return_, 1) := by decide +kernel
theorem dX6_link_4 : decode cX6_link 4 = .ok (.iload_n 1, 1) := by decide +kernel
theorem dX6_link_5 : decode cX6_link 5 = .ok (.sipush 256, 3) := by decide +kernel
theorem dX6_link_8 : decode cX6_link 8 = .ok (.if_icmp .ge 28, 3) := by decide +kernel
theorem dX6_link_11 : decode cX6_link 11 = .ok (.iload_n 2, 1) := by decide +kernel
theorem dX6_link_12 : decode cX6_link 12 = .ok (.ifCond .lt 24, 3) := by decide +kernel
theorem dX6_link_15 : decode cX6_link 15 = .ok (.iload_n 2, 1) := by decide +kernel
theorem dX6_link_16 : decode cX6_link 16 = .ok (.sipush 256, 3) := by decide +kernel
theorem dX6_link_19 : decode cX6_link 19 = .ok (.if_icmp .ge 17, 3) := by decide +kernel
theorem dX6_link_22 : decode cX6_link 22 = .ok (.aload_n 0, 1) := by decide +kernel
theorem dX6_link_23 : decode cX6_link 23 = .ok (.getfield 28, 3) := by decide +kernel
theorem dX6_link_26 : decode cX6_link 26 = .ok (.iload_n 1, 1) := by decide +kernel
theorem dX6_link_27 : decode cX6_link 27 = .ok (.iload_n 2, 1) := by decide +kernel
theorem dX6_link_28 : decode cX6_link 28 = .ok (.iastore, 1) := by decide +kernel
theorem dX6_link_29 : decode cX6_link 29 = .ok (.aload_n 0, 1) := by decide +kernel
theorem dX6_link_30 : decode cX6_link 30 = .ok (.getfield 25, 3) := by decide +kernel
theorem dX6_link_33 : decode cX6_link 33 = .ok (.iload_n 2, 1) := by decide +kernel
theorem dX6_link_34 : decode cX6_link 34 = .ok (.iload_n 1, 1) := by decide +kernel
theorem dX6_link_35 : decode cX6_link 35 = .ok (.iastore, 1) := by decide +kernel
theorem dX6_isRun_0 : decode cX6_isRun 0 = .ok (.aload_n 0, 1) := by decide +kernel
theorem dX6_isRun_1 : decode cX6_isRun 1 = .ok (.getfield 12, 3) := by decide +kernel
theorem dX6_isRun_4 : decode cX6_isRun 4 = .ok (.iload_n 1, 1) := by decide +kernel
theorem dX6_isRun_5 : decode cX6_isRun 5 = .ok (.invokevirtual 90, 3) := by decide +kernel
theorem dX6_isRun_8 : decode cX6_isRun 8 = .ok (.istore_n 3, 1) := by decide +kernel
theorem dX6_isRun_9 : decode cX6_isRun 9 = .ok (.aload_n 0, 1) := by decide +kernel
theorem dX6_isRun_10 : decode cX6_isRun 10 = .ok (.getfield 12, 3) := by decide +kernel
theorem dX6_isRun_13 : decode cX6_isRun 13 = .ok (.iload_n 2, 1) := by decide +kernel
theorem dX6_isRun_14 : decode cX6_isRun 14 = .ok (.invokevirtual 90, 3) := by decide +kernel
theorem dX6_isRun_17 : decode cX6_isRun 17 = .ok (.istore 4, 2) := by decide +kernel
theorem dX6_isRun_19 : decode cX6_isRun 19 = .ok (.iload_n 3, 1) := by decide +kernel
theorem dX6_isRun_20 : decode cX6_isRun 20 = .ok (.iconst 4, 1) := by decide +kernel
theorem dX6_isRun_21 : decode cX6_isRun 21 = .ok (.if_icmp .eq 19, 3) := by decide +kernel
theorem dX6_isRun_40 : decode cX6_isRun 40 = .ok (.iconst 0, 1) := by decide +kernel
theorem dX6_isRun_41 : decode cX6_isRun 41 = .ok (.ireturn, 1) := by decide +kernel
theorem dX6_isRun_24 : decode cX6_isRun 24 = .ok (.iload 4, 2) := by decide +kernel
theorem dX6_isRun_26 : decode cX6_isRun 26 = .ok (.iconst 4, 1) := by decide +kernel
theorem dX6_isRun_27 : decode cX6_isRun 27 = .ok (.if_icmp .eq 13, 3) := by decide +kernel
theorem dX6_isRun_30 : decode cX6_isRun 30 = .ok (.iload_n 3, 1) := by decide +kernel
theorem dX6_isRun_31 : decode cX6_isRun 31 = .ok (.iload 4, 2) := by decide +kernel
theorem dX6_isRun_33 : decode cX6_isRun 33 = .ok (.if_icmp .eq 7, 3) := by decide +kernel
theorem dX6_isRun_36 : decode cX6_isRun 36 = .ok (.iconst 1, 1) := by decide +kernel
theorem dX6_isRun_37 : decode cX6_isRun 37 = .ok (.goto 4, 3) := by decide +kernel
theorem dX6_countOver_0 : decode cX6_countOver 0 = .ok (.aload_n 0, 1) := by decide +kernel
theorem dX6_countOver_1 : decode cX6_countOver 1 = .ok (.getfield 12, 3) := by decide +kernel
theorem dX6_countOver_4 : decode cX6_countOver 4 = .ok (.aload_n 2, 1) := by decide +kernel
theorem dX6_countOver_5 : decode cX6_countOver 5 = .ok (.invokevirtual 31, 3) := by decide +kernel
theorem dX6_countOver_8 : decode cX6_countOver 8 = .ok (.aload_n 0, 1) := by decide +kernel
theorem dX6_countOver_9 : decode cX6_countOver 9 = .ok (.getfield 18, 3) := by decide +kernel
theorem dX6_countOver_12 : decode cX6_countOver 12 = .ok (.iconst 0, 1) := by decide +kernel
theorem dX6_countOver_13 : decode cX6_countOver 13 = .ok (.invokestatic 35, 3) := by decide +kernel
theorem dX6_countOver_16 : decode cX6_countOver 16 = .ok (.aload_n 0, 1) := by decide +kernel
theorem dX6_countOver_17 : decode cX6_countOver 17 = .ok (.getfield 22, 3) := by decide +kernel
theorem dX6_countOver_20 : decode cX6_countOver 20 = .ok (.iconst 0, 1) := by decide +kernel
theorem dX6_countOver_21 : decode cX6_countOver 21 = .ok (.invokestatic 35, 3) := by decide +kernel
theorem dX6_countOver_24 : decode cX6_countOver 24 = .ok (.aload_n 0, 1) := by decide +kernel
theorem dX6_countOver_25 : decode cX6_countOver 25 = .ok (.getfield 25, 3) := by decide +kernel
theorem dX6_countOver_28 : decode cX6_countOver 28 = .ok (.iconst (-1), 1) := by decide +kernel
theorem dX6_countOver_29 : decode cX6_countOver 29 = .ok (.invokestatic 35, 3) := by decide +kernel
theorem dX6_countOver_32 : decode cX6_countOver 32 = .ok (.aload_n 0, 1) := by decide +kernel
theorem dX6_countOver_33 : decode cX6_countOver 33 = .ok (.getfield 28, 3) := by decide +kernel
theorem dX6_countOver_36 : decode cX6_countOver 36 = .ok (.iconst (-1), 1) := by decide +kernel
theorem dX6_countOver_37 : decode cX6_countOver 37 = .ok (.invokestatic 35, 3) := by decide +kernel
theorem dX6_countOver_40 : decode cX6_countOver 40 = .ok (.aload_n 0, 1) := by decide +kernel
theorem dX6_countOver_41 : decode cX6_countOver 41 = .ok (.aload_n 1, 1) := by decide +kernel
theorem dX6_countOver_42 : decode cX6_countOver 42 = .ok (.getfield 41, 3) := by decide +kernel
theorem dX6_countOver_45 : decode cX6_countOver 45 = .ok (.putfield 47, 3) := by decide +kernel
theorem dX6_countOver_48 : decode cX6_countOver 48 = .ok (.aload_n 0, 1) := by decide +kernel
theorem dX6_countOver_49 : decode cX6_countOver 49 = .ok (.aload_n 1, 1) := by decide +kernel
theorem dX6_countOver_50 : decode cX6_countOver 50 = .ok (.getfield 48, 3) := by decide +kernel
theorem dX6_countOver_53 : decode cX6_countOver 53 = .ok (.bipush 16, 2) := by decide +kernel
theorem dX6_countOver_55 : decode cX6_countOver 55 = .ok (.invokestatic 51, 3) := by decide +kernel
theorem dX6_countOver_58 : decode cX6_countOver 58 = .ok (.putfield 57, 3) := by decide +kernel
theorem dX6_countOver_61 : decode cX6_countOver 61 = .ok (.aload_n 0, 1) := by decide +kernel
theorem dX6_countOver_62 : decode cX6_countOver 62 = .ok (.aload_n 1, 1) := by decide +kernel
theorem dX6_countOver_63 : decode cX6_countOver 63 = .ok (.getfield 58, 3) := by decide +kernel
theorem dX6_countOver_66 : decode cX6_countOver 66 = .ok (.putfield 61, 3) := by decide +kernel
theorem dX6_countOver_69 : decode cX6_countOver 69 = .ok (.aload_n 0, 1) := by decide +kernel
theorem dX6_countOver_70 : decode cX6_countOver 70 = .ok (.aload_n 2, 1) := by decide +kernel
theorem dX6_countOver_71 : decode cX6_countOver 71 = .ok (.aload_n 1, 1) := by decide +kernel
theorem dX6_countOver_72 : decode cX6_countOver 72 = .ok (.invokevirtual 62, 3) := by decide +kernel
theorem dX6_countOver_75 : decode cX6_countOver 75 = .ok (.putfield 66, 3) := by decide +kernel
theorem dX6_countOver_78 : decode cX6_countOver 78 = .ok (.aload_n 0, 1) := by decide +kernel
theorem dX6_countOver_79 : decode cX6_countOver 79 = .ok (.iconst 0, 1) := by decide +kernel
theorem dX6_countOver_80 : decode cX6_countOver 80 = .ok (.putfield 69, 3) := by decide +kernel
theorem dX6_countOver_83 : decode cX6_countOver 83 = .ok (.iconst (-1), 1) := by decide +kernel
theorem dX6_countOver_84 : decode cX6_countOver 84 = .ok (.istore_n 3, 1) := by decide +kernel
theorem dX6_countOver_85 : decode cX6_countOver 85 = .ok (.iconst 0, 1) := by decide +kernel
theorem dX6_countOver_86 : decode cX6_countOver 86 = .ok (.istore 4, 2) := by decide +kernel
theorem dX6_countOver_88 : decode cX6_countOver 88 = .ok (.iload 4, 2) := by decide +kernel
theorem dX6_countOver_90 : decode cX6_countOver 90 = .ok (.aload_n 0, 1) := by decide +kernel
theorem dX6_countOver_91 : decode cX6_countOver 91 = .ok (.getfield 61, 3) := by decide +kernel
theorem dX6_countOver_94 : decode cX6_countOver 94 = .ok (.if_icmp .ge 68, 3) := by decide +kernel
theorem dX6_countOver_162 : decode cX6_countOver 162 = .ok (.return_, 1) := by decide +kernel
theorem dX6_countOver_97 : decode cX6_countOver 97 = .ok (.aload_n 1, 1) := by decide +kernel
theorem dX6_countOver_98 : decode cX6_countOver 98 = .ok (.iload 4, 2) := by decide +kernel
theorem dX6_countOver_100 : decode cX6_countOver 100 = .ok (.invokevirtual 72, 3) := by decide +kernel
theorem dX6_countOver_103 : decode cX6_countOver 103 = .ok (.istore 5, 2) := by decide +kernel
theorem dX6_countOver_105 : decode cX6_countOver 105 = .ok (.aload_n 0, 1) := by decide +kernel
theorem dX6_countOver_106 : decode cX6_countOver 106 = .ok (.iload 5, 2) := by decide +kernel
theorem dX6_countOver_108 : decode cX6_countOver 108 = .ok (.iconst 1, 1) := by decide +kernel
theorem dX6_countOver_109 : decode cX6_countOver 109 = .ok (.invokevirtual 76, 3) := by decide +kernel
theorem dX6_countOver_112 : decode cX6_countOver 112 = .ok (.aload_n 1, 1) := by decide +kernel
theorem dX6_countOver_113 : decode cX6_countOver 113 = .ok (.iload 5, 2) := by decide +kernel
theorem dX6_countOver_115 : decode cX6_countOver 115 = .ok (.invokevirtual 80, 3) := by decide +kernel
theorem dX6_countOver_118 : decode cX6_countOver 118 = .ok (.iconst 2, 1) := by decide +kernel
theorem dX6_countOver_119 : decode cX6_countOver 119 = .ok (.if_icmp .ne 37, 3) := by decide +kernel
theorem dX6_countOver_156 : decode cX6_countOver 156 = .ok (.iinc 4 1, 3) := by decide +kernel
theorem dX6_countOver_159 : decode cX6_countOver 159 = .ok (.goto (-71), 3) := by decide +kernel
theorem dX6_countOver_122 : decode cX6_countOver 122 = .ok (.aload_n 0, 1) := by decide +kernel
theorem dX6_countOver_123 : decode cX6_countOver 123 = .ok (.iload_n 3, 1) := by decide +kernel
theorem dX6_countOver_124 : decode cX6_countOver 124 = .ok (.iload 5, 2) := by decide +kernel
theorem dX6_countOver_126 : decode cX6_countOver 126 = .ok (.invokevirtual 83, 3) := by decide +kernel
theorem dX6_countOver_129 : decode cX6_countOver 129 = .ok (.aload_n 0, 1) := by decide +kernel
theorem dX6_countOver_130 : decode cX6_countOver 130 = .ok (.dup, 1) := by decide +kernel
theorem dX6_countOver_131 : decode cX6_countOver 131 = .ok (.getfield 69, 3) := by decide +kernel
theorem dX6_countOver_134 : decode cX6_countOver 134 = .ok (.aload_n 0, 1) := by decide +kernel
theorem dX6_countOver_135 : decode cX6_countOver 135 = .ok (.iload_n 3, 1) := by decide +kernel
theorem dX6_countOver_136 : decode cX6_countOver 136 = .ok (.iload 5, 2) := by decide +kernel
theorem dX6_countOver_138 : decode cX6_countOver 138 = .ok (.invokevirtual 86, 3) := by decide +kernel
theorem dX6_countOver_141 : decode cX6_countOver 141 = .ok (.ifCond .eq 7, 3) := by decide +kernel
theorem dX6_countOver_148 : decode cX6_countOver 148 = .ok (.iconst 0, 1) := by decide +kernel
theorem dX6_countOver_149 : decode cX6_countOver 149 = .ok (.iadd, 1) := by decide +kernel
theorem dX6_countOver_150 : decode cX6_countOver 150 = .ok (.putfield 69, 3) := by decide +kernel
theorem dX6_countOver_153 : decode cX6_countOver 153 = .ok (.iload 5, 2) := by decide +kernel
theorem dX6_countOver_155 : decode cX6_countOver 155 = .ok (.istore_n 3, 1) := by decide +kernel
theorem dX6_countOver_144 : decode cX6_countOver 144 = .ok (.iconst 1, 1) := by decide +kernel
theorem dX6_countOver_145 : decode cX6_countOver 145 = .ok (.goto 4, 3) := by decide +kernel
theorem dX6_runsAt_0 : decode cX6_runsAt 0 = .ok (.iload_n 1, 1) := by decide +kernel
theorem dX6_runsAt_1 : decode cX6_runsAt 1 = .ok (.ifCond .lt 10, 3) := by decide +kernel
theorem dX6_runsAt_11 : decode cX6_runsAt 11 = .ok (.iconst 0, 1) := by decide +kernel
theorem dX6_runsAt_12 : decode cX6_runsAt 12 = .ok (.ireturn, 1) := by decide +kernel
theorem dX6_runsAt_4 : decode cX6_runsAt 4 = .ok (.iload_n 1, 1) := by decide +kernel
theorem dX6_runsAt_5 : decode cX6_runsAt 5 = .ok (.sipush 256, 3) := by decide +kernel
theorem dX6_runsAt_8 : decode cX6_runsAt 8 = .ok (.if_icmp .lt 5, 3) := by decide +kernel
theorem dX6_runsAt_13 : decode cX6_runsAt 13 = .ok (.aload_n 0, 1) := by decide +kernel
theorem dX6_runsAt_14 : decode cX6_runsAt 14 = .ok (.aload_n 0, 1) := by decide +kernel
theorem dX6_runsAt_15 : decode cX6_runsAt 15 = .ok (.getfield 25, 3) := by decide +kernel
theorem dX6_runsAt_18 : decode cX6_runsAt 18 = .ok (.iload_n 1, 1) := by decide +kernel
theorem dX6_runsAt_19 : decode cX6_runsAt 19 = .ok (.iaload, 1) := by decide +kernel
theorem dX6_runsAt_20 : decode cX6_runsAt 20 = .ok (.iload_n 1, 1) := by decide +kernel
theorem dX6_runsAt_21 : decode cX6_runsAt 21 = .ok (.invokevirtual 86, 3) := by decide +kernel
theorem dX6_runsAt_32 : decode cX6_runsAt 32 = .ok (.aload_n 0, 1) := by decide +kernel
theorem dX6_runsAt_33 : decode cX6_runsAt 33 = .ok (.iload_n 1, 1) := by decide +kernel
theorem dX6_runsAt_34 : decode cX6_runsAt 34 = .ok (.aload_n 0, 1) := by decide +kernel
theorem dX6_runsAt_35 : decode cX6_runsAt 35 = .ok (.getfield 28, 3) := by decide +kernel
theorem dX6_runsAt_38 : decode cX6_runsAt 38 = .ok (.iload_n 1, 1) := by decide +kernel
theorem dX6_runsAt_39 : decode cX6_runsAt 39 = .ok (.iaload, 1) := by decide +kernel
theorem dX6_runsAt_40 : decode cX6_runsAt 40 = .ok (.invokevirtual 86, 3) := by decide +kernel
theorem dX6_runsAt_43 : decode cX6_runsAt 43 = .ok (.ifCond .eq 7, 3) := by decide +kernel
theorem dX6_runsAt_50 : decode cX6_runsAt 50 = .ok (.iconst 0, 1) := by decide +kernel
theorem dX6_runsAt_51 : decode cX6_runsAt 51 = .ok (.iadd, 1) := by decide +kernel
theorem dX6_runsAt_52 : decode cX6_runsAt 52 = .ok (.ireturn, 1) := by decide +kernel
theorem dX6_runsAt_46 : decode cX6_runsAt 46 = .ok (.iconst 1, 1) := by decide +kernel
theorem dX6_runsAt_47 : decode cX6_runsAt 47 = .ok (.goto 4, 3) := by decide +kernel
theorem dX6_runsAt_24 : decode cX6_runsAt 24 = .ok (.ifCond .eq 7, 3) := by decide +kernel
theorem dX6_runsAt_31 : decode cX6_runsAt 31 = .ok (.iconst 0, 1) := by decide +kernel
theorem dX6_runsAt_27 : decode cX6_runsAt 27 = .ok (.iconst 1, 1) := by decide +kernel
theorem dX6_runsAt_28 : decode cX6_runsAt 28 = .ok (.goto 4, 3) := by decide +kernel
theorem dX6_change_0 : decode cX6_change 0 = .ok (.iload_n 1, 1) := by decide +kernel
theorem dX6_change_1 : decode cX6_change 1 = .ok (.ifCond .lt 10, 3) := by decide +kernel
theorem dX6_change_11 : decode cX6_change 11 = .ok (.return_, 1) := by decide +kernel
theorem dX6_change_4 : decode cX6_change 4 = .ok (.iload_n 1, 1) := by decide +kernel
theorem dX6_change_5 : decode cX6_change 5 = .ok (.sipush 256, 3) := by decide +kernel
theorem dX6_change_8 : decode cX6_change 8 = .ok (.if_icmp .lt 4, 3) := by decide +kernel
theorem dX6_change_12 : decode cX6_change 12 = .ok (.aload_n 0, 1) := by decide +kernel
theorem dX6_change_13 : decode cX6_change 13 = .ok (.iload_n 1, 1) := by decide +kernel
theorem dX6_change_14 : decode cX6_change 14 = .ok (.iconst (-1), 1) := by decide +kernel
theorem dX6_change_15 : decode cX6_change 15 = .ok (.invokevirtual 76, 3) := by decide +kernel
theorem dX6_change_18 : decode cX6_change 18 = .ok (.aload_n 0, 1) := by decide +kernel
theorem dX6_change_19 : decode cX6_change 19 = .ok (.dup, 1) := by decide +kernel
theorem dX6_change_20 : decode cX6_change 20 = .ok (.getfield 69, 3) := by decide +kernel
theorem dX6_change_23 : decode cX6_change 23 = .ok (.aload_n 0, 1) := by decide +kernel
theorem dX6_change_24 : decode cX6_change 24 = .ok (.iload_n 1, 1) := by decide +kernel
theorem dX6_change_25 : decode cX6_change 25 = .ok (.invokevirtual 93, 3) := by decide +kernel
theorem dX6_change_28 : decode cX6_change 28 = .ok (.isub, 1) := by decide +kernel
theorem dX6_change_29 : decode cX6_change 29 = .ok (.putfield 69, 3) := by decide +kernel
theorem dX6_change_32 : decode cX6_change 32 = .ok (.aload_n 0, 1) := by decide +kernel
theorem dX6_change_33 : decode cX6_change 33 = .ok (.getfield 12, 3) := by decide +kernel
theorem dX6_change_36 : decode cX6_change 36 = .ok (.iload_n 1, 1) := by decide +kernel
theorem dX6_change_37 : decode cX6_change 37 = .ok (.iload_n 2, 1) := by decide +kernel
theorem dX6_change_38 : decode cX6_change 38 = .ok (.invokevirtual 96, 3) := by decide +kernel
theorem dX6_change_41 : decode cX6_change 41 = .ok (.aload_n 0, 1) := by decide +kernel
theorem dX6_change_42 : decode cX6_change 42 = .ok (.dup, 1) := by decide +kernel
theorem dX6_change_43 : decode cX6_change 43 = .ok (.getfield 69, 3) := by decide +kernel
theorem dX6_change_46 : decode cX6_change 46 = .ok (.aload_n 0, 1) := by decide +kernel
theorem dX6_change_47 : decode cX6_change 47 = .ok (.iload_n 1, 1) := by decide +kernel
theorem dX6_change_48 : decode cX6_change 48 = .ok (.invokevirtual 93, 3) := by decide +kernel
theorem dX6_change_51 : decode cX6_change 51 = .ok (.iadd, 1) := by decide +kernel
theorem dX6_change_52 : decode cX6_change 52 = .ok (.putfield 69, 3) := by decide +kernel
theorem dX6_change_55 : decode cX6_change 55 = .ok (.aload_n 0, 1) := by decide +kernel
theorem dX6_change_56 : decode cX6_change 56 = .ok (.iload_n 1, 1) := by decide +kernel
theorem dX6_change_57 : decode cX6_change 57 = .ok (.iconst 1, 1) := by decide +kernel
theorem dX6_change_58 : decode cX6_change 58 = .ok (.invokevirtual 76, 3) := by decide +kernel
theorem dX6_change_61 : decode cX6_change 61 = .ok (.return_, 1) := by decide +kernel
theorem dX5_isThere_0 : decode cX5_isThere 0 = .ok (.aload_n 0, 1) := by decide +kernel
theorem dX5_isThere_1 : decode cX5_isThere 1 = .ok (.getfield 15, 3) := by decide +kernel
theorem dX5_isThere_4 : decode cX5_isThere 4 = .ok (.iconst (-1), 1) := by decide +kernel
theorem dX5_isThere_5 : decode cX5_isThere 5 = .ok (.if_icmp .eq 7, 3) := by decide +kernel
theorem dX5_isThere_12 : decode cX5_isThere 12 = .ok (.iconst 0, 1) := by decide +kernel
theorem dX5_isThere_13 : decode cX5_isThere 13 = .ok (.ireturn, 1) := by decide +kernel
theorem dX5_isThere_8 : decode cX5_isThere 8 = .ok (.iconst 1, 1) := by decide +kernel
theorem dX5_isThere_9 : decode cX5_isThere 9 = .ok (.goto 4, 3) := by decide +kernel
theorem dJ7_fill_d0a16_0 : decode cJ7_fill_d0a16 0 = .ok (.iconst 0, 1) := by decide +kernel
theorem dJ7_fill_d0a16_1 : decode cJ7_fill_d0a16 1 = .ok (.istore_n 3, 1) := by decide +kernel
theorem dJ7_fill_d0a16_2 : decode cJ7_fill_d0a16 2 = .ok (.aload_n 0, 1) := by decide +kernel
theorem dJ7_fill_d0a16_3 : decode cJ7_fill_d0a16 3 = .ok (.arraylength, 1) := by decide +kernel
theorem dJ7_fill_d0a16_4 : decode cJ7_fill_d0a16 4 = .ok (.istore 4, 2) := by decide +kernel
theorem dJ7_fill_d0a16_6 : decode cJ7_fill_d0a16 6 = .ok (.iload_n 3, 1) := by decide +kernel
theorem dJ7_fill_d0a16_7 : decode cJ7_fill_d0a16 7 = .ok (.iload 4, 2) := by decide +kernel
theorem dJ7_fill_d0a16_9 : decode cJ7_fill_d0a16 9 = .ok (.if_icmp .ge 13, 3) := by decide +kernel
theorem dJ7_fill_d0a16_22 : decode cJ7_fill_d0a16 22 = .ok (.return_, 1) := by decide +kernel
theorem dJ7_fill_d0a16_12 : decode cJ7_fill_d0a16 12 = .ok (.aload_n 0, 1) := by decide +kernel
theorem dJ7_fill_d0a16_13 : decode cJ7_fill_d0a16 13 = .ok (.iload_n 3, 1) := by decide +kernel
theorem dJ7_fill_d0a16_14 : decode cJ7_fill_d0a16 14 = .ok (.lload_n 1, 1) := by decide +kernel
theorem dJ7_fill_d0a16_15 : decode cJ7_fill_d0a16 15 = .ok (.lastore, 1) := by decide +kernel
theorem dJ7_fill_d0a16_16 : decode cJ7_fill_d0a16 16 = .ok (.iinc 3 1, 3) := by decide +kernel
theorem dJ7_fill_d0a16_19 : decode cJ7_fill_d0a16 19 = .ok (.goto (-13), 3) := by decide +kernel
theorem dX5_begin_0 : decode cX5_begin 0 = .ok (.aload_n 0, 1) := by decide +kernel
theorem dX5_begin_1 : decode cX5_begin 1 = .ok (.iload_n 1, 1) := by decide +kernel
theorem dX5_begin_2 : decode cX5_begin 2 = .ok (.putfield 15, 3) := by decide +kernel
theorem dX5_begin_5 : decode cX5_begin 5 = .ok (.aload_n 0, 1) := by decide +kernel
theorem dX5_begin_6 : decode cX5_begin 6 = .ok (.iload_n 2, 1) := by decide +kernel
theorem dX5_begin_7 : decode cX5_begin 7 = .ok (.putfield 19, 3) := by decide +kernel
theorem dX5_begin_10 : decode cX5_begin 10 = .ok (.aload_n 0, 1) := by decide +kernel
theorem dX5_begin_11 : decode cX5_begin 11 = .ok (.getfield 9, 3) := by decide +kernel
theorem dX5_begin_14 : decode cX5_begin 14 = .ok (.lconst 0, 1) := by decide +kernel
theorem dX5_begin_15 : decode cX5_begin 15 = .ok (.invokestatic 22, 3) := by decide +kernel
theorem dX5_begin_18 : decode cX5_begin 18 = .ok (.return_, 1) := by decide +kernel
theorem dX5_has_0 : decode cX5_has 0 = .ok (.iload_n 1, 1) := by decide +kernel
theorem dX5_has_1 : decode cX5_has 1 = .ok (.ifCond .lt 29, 3) := by decide +kernel
theorem dX5_has_30 : decode cX5_has 30 = .ok (.iconst 0, 1) := by decide +kernel
theorem dX5_has_31 : decode cX5_has 31 = .ok (.ireturn, 1) := by decide +kernel
theorem dX5_has_4 : decode cX5_has 4 = .ok (.iload_n 2, 1) := by decide +kernel
theorem dX5_has_5 : decode cX5_has 5 = .ok (.ifCond .lt 25, 3) := by decide +kernel
theorem dX5_has_8 : decode cX5_has 8 = .ok (.iload_n 1, 1) := by decide +kernel
theorem dX5_has_9 : decode cX5_has 9 = .ok (.aload_n 0, 1) := by decide +kernel
theorem dX5_has_10 : decode cX5_has 10 = .ok (.getfield 19, 3) := by decide +kernel
theorem dX5_has_13 : decode cX5_has 13 = .ok (.if_icmp .gt 17, 3) := by decide +kernel
theorem dX5_has_16 : decode cX5_has 16 = .ok (.iload_n 2, 1) := by decide +kernel
theorem dX5_has_17 : decode cX5_has 17 = .ok (.aload_n 0, 1) := by decide +kernel
theorem dX5_has_18 : decode cX5_has 18 = .ok (.getfield 19, 3) := by decide +kernel
theorem dX5_has_21 : decode cX5_has 21 = .ok (.iload_n 1, 1) := by decide +kernel
theorem dX5_has_22 : decode cX5_has 22 = .ok (.isub, 1) := by decide +kernel
theorem dX5_has_23 : decode cX5_has 23 = .ok (.if_icmp .gt 7, 3) := by decide +kernel
theorem dX5_has_26 : decode cX5_has 26 = .ok (.iconst 1, 1) := by decide +kernel
theorem dX5_has_27 : decode cX5_has 27 = .ok (.goto 4, 3) := by decide +kernel
theorem dX5_cutToWidth_0 : decode cX5_cutToWidth 0 = .ok (.aload_n 0, 1) := by decide +kernel
theorem dX5_cutToWidth_1 : decode cX5_cutToWidth 1 = .ok (.getfield 15, 3) := by decide +kernel
theorem dX5_cutToWidth_4 : decode cX5_cutToWidth 4 = .ok (.tableswitch 42 0 2 #[28, 33, 38], 28) := by decide +kernel
theorem dX5_cutToWidth_32 : decode cX5_cutToWidth 32 = .ok (.lload_n 1, 1) := by decide +kernel
theorem dX5_cutToWidth_33 : decode cX5_cutToWidth 33 = .ok (.l2i, 1) := by decide +kernel
theorem dX5_cutToWidth_34 : decode cX5_cutToWidth 34 = .ok (.i2b, 1) := by decide +kernel
theorem dX5_cutToWidth_35 : decode cX5_cutToWidth 35 = .ok (.i2l, 1) := by decide +kernel
theorem dX5_cutToWidth_36 : decode cX5_cutToWidth 36 = .ok (.lreturn, 1) := by decide +kernel
theorem dX5_cutToWidth_37 : decode cX5_cutToWidth 37 = .ok (.lload_n 1, 1) := by decide +kernel
theorem dX5_cutToWidth_38 : decode cX5_cutToWidth 38 = .ok (.l2i, 1) := by decide +kernel
theorem dX5_cutToWidth_39 : decode cX5_cutToWidth 39 = .ok (.i2s, 1) := by decide +kernel
theorem dX5_cutToWidth_40 : decode cX5_cutToWidth 40 = .ok (.i2l, 1) := by decide +kernel
theorem dX5_cutToWidth_41 : decode cX5_cutToWidth 41 = .ok (.lreturn, 1) := by decide +kernel
theorem dX5_cutToWidth_42 : decode cX5_cutToWidth 42 = .ok (.lload_n 1, 1) := by decide +kernel
theorem dX5_cutToWidth_43 : decode cX5_cutToWidth 43 = .ok (.l2i, 1) := by decide +kernel
theorem dX5_cutToWidth_44 : decode cX5_cutToWidth 44 = .ok (.i2l, 1) := by decide +kernel
theorem dX5_cutToWidth_45 : decode cX5_cutToWidth 45 = .ok (.lreturn, 1) := by decide +kernel
theorem dX5_cutToWidth_46 : decode cX5_cutToWidth 46 = .ok (.lload_n 1, 1) := by decide +kernel
theorem dX5_cutToWidth_47 : decode cX5_cutToWidth 47 = .ok (.lreturn, 1) := by decide +kernel
theorem dX5_set_0 : decode cX5_set 0 = .ok (.iload_n 1, 1) := by decide +kernel
theorem dX5_set_1 : decode cX5_set 1 = .ok (.ifCond .lt 20, 3) := by decide +kernel
theorem dX5_set_21 : decode cX5_set 21 = .ok (.return_, 1) := by decide +kernel
theorem dX5_set_4 : decode cX5_set 4 = .ok (.iload_n 1, 1) := by decide +kernel
theorem dX5_set_5 : decode cX5_set 5 = .ok (.bipush 60, 2) := by decide +kernel
theorem dX5_set_7 : decode cX5_set 7 = .ok (.if_icmp .ge 14, 3) := by decide +kernel
theorem dX5_set_10 : decode cX5_set 10 = .ok (.aload_n 0, 1) := by decide +kernel
theorem dX5_set_11 : decode cX5_set 11 = .ok (.getfield 9, 3) := by decide +kernel
theorem dX5_set_14 : decode cX5_set 14 = .ok (.iload_n 1, 1) := by decide +kernel
theorem dX5_set_15 : decode cX5_set 15 = .ok (.aload_n 0, 1) := by decide +kernel
theorem dX5_set_16 : decode cX5_set 16 = .ok (.lload_n 2, 1) := by decide +kernel
theorem dX5_set_17 : decode cX5_set 17 = .ok (.invokevirtual 28, 3) := by decide +kernel
theorem dX5_set_20 : decode cX5_set 20 = .ok (.lastore, 1) := by decide +kernel
theorem dX5_isZero_0 : decode cX5_isZero 0 = .ok (.iload_n 1, 1) := by decide +kernel
theorem dX5_isZero_1 : decode cX5_isZero 1 = .ok (.ifCond .lt 20, 3) := by decide +kernel
theorem dX5_isZero_21 : decode cX5_isZero 21 = .ok (.iconst 1, 1) := by decide +kernel
theorem dX5_isZero_22 : decode cX5_isZero 22 = .ok (.goto 4, 3) := by decide +kernel
theorem dX5_isZero_26 : decode cX5_isZero 26 = .ok (.ireturn, 1) := by decide +kernel
theorem dX5_isZero_4 : decode cX5_isZero 4 = .ok (.iload_n 1, 1) := by decide +kernel
theorem dX5_isZero_5 : decode cX5_isZero 5 = .ok (.bipush 60, 2) := by decide +kernel
theorem dX5_isZero_7 : decode cX5_isZero 7 = .ok (.if_icmp .ge 14, 3) := by decide +kernel
theorem dX5_isZero_10 : decode cX5_isZero 10 = .ok (.aload_n 0, 1) := by decide +kernel
theorem dX5_isZero_11 : decode cX5_isZero 11 = .ok (.getfield 9, 3) := by decide +kernel
theorem dX5_isZero_14 : decode cX5_isZero 14 = .ok (.iload_n 1, 1) := by decide +kernel
theorem dX5_isZero_15 : decode cX5_isZero 15 = .ok (.laload, 1) := by decide +kernel
theorem dX5_isZero_16 : decode cX5_isZero 16 = .ok (.lconst 0, 1) := by decide +kernel
theorem dX5_isZero_17 : decode cX5_isZero 17 = .ok (.lcmp, 1) := by decide +kernel
theorem dX5_isZero_18 : decode cX5_isZero 18 = .ok (.ifCond .ne 7, 3) := by decide +kernel
theorem dX5_isZero_25 : decode cX5_isZero 25 = .ok (.iconst 0, 1) := by decide +kernel
theorem dX0_takeFrom_0 : decode cX0_takeFrom 0 = .ok (.aload_n 0, 1) := by decide +kernel
theorem dX0_takeFrom_1 : decode cX0_takeFrom 1 = .ok (.getfield 12, 3) := by decide +kernel
theorem dX0_takeFrom_4 : decode cX0_takeFrom 4 = .ok (.aload_n 1, 1) := by decide +kernel
theorem dX0_takeFrom_5 : decode cX0_takeFrom 5 = .ok (.getfield 12, 3) := by decide +kernel
theorem dX0_takeFrom_8 : decode cX0_takeFrom 8 = .ok (.invokevirtual 50, 3) := by decide +kernel
theorem dX0_takeFrom_11 : decode cX0_takeFrom 11 = .ok (.aload_n 1, 1) := by decide +kernel
theorem dX0_takeFrom_12 : decode cX0_takeFrom 12 = .ok (.getfield 18, 3) := by decide +kernel
theorem dX0_takeFrom_15 : decode cX0_takeFrom 15 = .ok (.iconst 0, 1) := by decide +kernel
theorem dX0_takeFrom_16 : decode cX0_takeFrom 16 = .ok (.aload_n 0, 1) := by decide +kernel
theorem dX0_takeFrom_17 : decode cX0_takeFrom 17 = .ok (.getfield 18, 3) := by decide +kernel
theorem dX0_takeFrom_20 : decode cX0_takeFrom 20 = .ok (.iconst 0, 1) := by decide +kernel
theorem dX0_takeFrom_21 : decode cX0_takeFrom 21 = .ok (.iconst 3, 1) := by decide +kernel
theorem dX0_takeFrom_22 : decode cX0_takeFrom 22 = .ok (.invokestatic 54, 3) := by decide +kernel
theorem dX0_takeFrom_25 : decode cX0_takeFrom 25 = .ok (.iconst 0, 1) := by decide +kernel
theorem dX0_takeFrom_26 : decode cX0_takeFrom 26 = .ok (.istore_n 2, 1) := by decide +kernel
theorem dX0_takeFrom_27 : decode cX0_takeFrom 27 = .ok (.iload_n 2, 1) := by decide +kernel
theorem dX0_takeFrom_28 : decode cX0_takeFrom 28 = .ok (.bipush 6, 2) := by decide +kernel
theorem dX0_takeFrom_30 : decode cX0_takeFrom 30 = .ok (.if_icmp .ge 24, 3) := by decide +kernel
theorem dX0_takeFrom_54 : decode cX0_takeFrom 54 = .ok (.aload_n 0, 1) := by decide +kernel
theorem dX0_takeFrom_55 : decode cX0_takeFrom 55 = .ok (.getfield 31, 3) := by decide +kernel
theorem dX0_takeFrom_58 : decode cX0_takeFrom 58 = .ok (.aload_n 1, 1) := by decide +kernel
theorem dX0_takeFrom_59 : decode cX0_takeFrom 59 = .ok (.getfield 31, 3) := by decide +kernel
theorem dX0_takeFrom_62 : decode cX0_takeFrom 62 = .ok (.invokevirtual 63, 3) := by decide +kernel
theorem dX0_takeFrom_65 : decode cX0_takeFrom 65 = .ok (.aload_n 0, 1) := by decide +kernel
theorem dX0_takeFrom_66 : decode cX0_takeFrom 66 = .ok (.getfield 38, 3) := by decide +kernel
theorem dX0_takeFrom_69 : decode cX0_takeFrom 69 = .ok (.aload_n 1, 1) := by decide +kernel
theorem dX0_takeFrom_70 : decode cX0_takeFrom 70 = .ok (.getfield 38, 3) := by decide +kernel
theorem dX0_takeFrom_73 : decode cX0_takeFrom 73 = .ok (.invokevirtual 66, 3) := by decide +kernel
theorem dX0_takeFrom_76 : decode cX0_takeFrom 76 = .ok (.iconst 0, 1) := by decide +kernel
theorem dX0_takeFrom_77 : decode cX0_takeFrom 77 = .ok (.istore_n 2, 1) := by decide +kernel
theorem dX0_takeFrom_78 : decode cX0_takeFrom 78 = .ok (.iload_n 2, 1) := by decide +kernel
theorem dX0_takeFrom_79 : decode cX0_takeFrom 79 = .ok (.iconst 4, 1) := by decide +kernel
theorem dX0_takeFrom_80 : decode cX0_takeFrom 80 = .ok (.if_icmp .ge 24, 3) := by decide +kernel
theorem dX0_takeFrom_104 : decode cX0_takeFrom 104 = .ok (.return_, 1) := by decide +kernel
theorem dX0_takeFrom_83 : decode cX0_takeFrom 83 = .ok (.aload_n 0, 1) := by decide +kernel
theorem dX0_takeFrom_84 : decode cX0_takeFrom 84 = .ok (.getfield 44, 3) := by decide +kernel
theorem dX0_takeFrom_87 : decode cX0_takeFrom 87 = .ok (.iload_n 2, 1) := by decide +kernel
theorem dX0_takeFrom_88 : decode cX0_takeFrom 88 = .ok (.aaload, 1) := by decide +kernel
theorem dX0_takeFrom_89 : decode cX0_takeFrom 89 = .ok (.aload_n 1, 1) := by decide +kernel
theorem dX0_takeFrom_90 : decode cX0_takeFrom 90 = .ok (.getfield 44, 3) := by decide +kernel
theorem dX0_takeFrom_93 : decode cX0_takeFrom 93 = .ok (.iload_n 2, 1) := by decide +kernel
theorem dX0_takeFrom_94 : decode cX0_takeFrom 94 = .ok (.aaload, 1) := by decide +kernel
theorem dX0_takeFrom_95 : decode cX0_takeFrom 95 = .ok (.invokevirtual 69, 3) := by decide +kernel
theorem dX0_takeFrom_98 : decode cX0_takeFrom 98 = .ok (.iinc 2 1, 3) := by decide +kernel
theorem dX0_takeFrom_101 : decode cX0_takeFrom 101 = .ok (.goto (-23), 3) := by decide +kernel
theorem dX0_takeFrom_33 : decode cX0_takeFrom 33 = .ok (.aload_n 0, 1) := by decide +kernel
theorem dX0_takeFrom_34 : decode cX0_takeFrom 34 = .ok (.getfield 24, 3) := by decide +kernel
theorem dX0_takeFrom_37 : decode cX0_takeFrom 37 = .ok (.iload_n 2, 1) := by decide +kernel
theorem dX0_takeFrom_38 : decode cX0_takeFrom 38 = .ok (.aaload, 1) := by decide +kernel
theorem dX0_takeFrom_39 : decode cX0_takeFrom 39 = .ok (.aload_n 1, 1) := by decide +kernel
theorem dX0_takeFrom_40 : decode cX0_takeFrom 40 = .ok (.getfield 24, 3) := by decide +kernel
theorem dX0_takeFrom_43 : decode cX0_takeFrom 43 = .ok (.iload_n 2, 1) := by decide +kernel
theorem dX0_takeFrom_44 : decode cX0_takeFrom 44 = .ok (.aaload, 1) := by decide +kernel
theorem dX0_takeFrom_45 : decode cX0_takeFrom 45 = .ok (.invokevirtual 60, 3) := by decide +kernel
theorem dX0_takeFrom_48 : decode cX0_takeFrom 48 = .ok (.iinc 2 1, 3) := by decide +kernel
theorem dX0_takeFrom_51 : decode cX0_takeFrom 51 = .ok (.goto (-24), 3) := by decide +kernel
theorem dX0_dropCloths_0 : decode cX0_dropCloths 0 = .ok (.iconst 0, 1) := by decide +kernel
theorem dX0_dropCloths_1 : decode cX0_dropCloths 1 = .ok (.istore_n 1, 1) := by decide +kernel
theorem dX0_dropCloths_2 : decode cX0_dropCloths 2 = .ok (.iload_n 1, 1) := by decide +kernel
theorem dX0_dropCloths_3 : decode cX0_dropCloths 3 = .ok (.iconst 4, 1) := by decide +kernel
theorem dX0_dropCloths_4 : decode cX0_dropCloths 4 = .ok (.if_icmp .ge 19, 3) := by decide +kernel
theorem dX0_dropCloths_23 : decode cX0_dropCloths 23 = .ok (.return_, 1) := by decide +kernel
theorem dX0_dropCloths_7 : decode cX0_dropCloths 7 = .ok (.aload_n 0, 1) := by decide +kernel
theorem dX0_dropCloths_8 : decode cX0_dropCloths 8 = .ok (.getfield 44, 3) := by decide +kernel
theorem dX0_dropCloths_11 : decode cX0_dropCloths 11 = .ok (.iload_n 1, 1) := by decide +kernel
theorem dX0_dropCloths_12 : decode cX0_dropCloths 12 = .ok (.aaload, 1) := by decide +kernel
theorem dX0_dropCloths_13 : decode cX0_dropCloths 13 = .ok (.iconst 0, 1) := by decide +kernel
theorem dX0_dropCloths_14 : decode cX0_dropCloths 14 = .ok (.putfield 72, 3) := by decide +kernel
theorem dX0_dropCloths_17 : decode cX0_dropCloths 17 = .ok (.iinc 1 1, 3) := by decide +kernel
theorem dX0_dropCloths_20 : decode cX0_dropCloths 20 = .ok (.goto (-18), 3) := by decide +kernel
theorem dX0_waysThere_0 : decode cX0_waysThere 0 = .ok (.iconst 0, 1) := by decide +kernel
theorem dX0_waysThere_1 : decode cX0_waysThere 1 = .ok (.istore_n 1, 1) := by decide +kernel
theorem dX0_waysThere_2 : decode cX0_waysThere 2 = .ok (.iconst 0, 1) := by decide +kernel
theorem dX0_waysThere_3 : decode cX0_waysThere 3 = .ok (.istore_n 2, 1) := by decide +kernel
theorem dX0_waysThere_4 : decode cX0_waysThere 4 = .ok (.iload_n 2, 1) := by decide +kernel
theorem dX0_waysThere_5 : decode cX0_waysThere 5 = .ok (.bipush 6, 2) := by decide +kernel
theorem dX0_waysThere_7 : decode cX0_waysThere 7 = .ok (.if_icmp .ge 24, 3) := by decide +kernel
theorem dX0_waysThere_31 : decode cX0_waysThere 31 = .ok (.iload_n 1, 1) := by decide +kernel
theorem dX0_waysThere_32 : decode cX0_waysThere 32 = .ok (.ireturn, 1) := by decide +kernel
theorem dX0_waysThere_10 : decode cX0_waysThere 10 = .ok (.aload_n 0, 1) := by decide +kernel
theorem dX0_waysThere_11 : decode cX0_waysThere 11 = .ok (.getfield 24, 3) := by decide +kernel
theorem dX0_waysThere_14 : decode cX0_waysThere 14 = .ok (.iload_n 2, 1) := by decide +kernel
theorem dX0_waysThere_15 : decode cX0_waysThere 15 = .ok (.aaload, 1) := by decide +kernel
theorem dX0_waysThere_16 : decode cX0_waysThere 16 = .ok (.getfield 76, 3) := by decide +kernel
theorem dX0_waysThere_19 : decode cX0_waysThere 19 = .ok (.ifCond .eq 6, 3) := by decide +kernel
theorem dX0_waysThere_25 : decode cX0_waysThere 25 = .ok (.iinc 2 1, 3) := by decide +kernel
theorem dX0_waysThere_28 : decode cX0_waysThere 28 = .ok (.goto (-24), 3) := by decide +kernel
theorem dX0_waysThere_22 : decode cX0_waysThere 22 = .ok (.iinc 1 1, 3) := by decide +kernel
theorem dX0_clothsThere_0 : decode cX0_clothsThere 0 = .ok (.iconst 0, 1) := by decide +kernel
theorem dX0_clothsThere_1 : decode cX0_clothsThere 1 = .ok (.istore_n 1, 1) := by decide +kernel
theorem dX0_clothsThere_2 : decode cX0_clothsThere 2 = .ok (.iconst 0, 1) := by decide +kernel
theorem dX0_clothsThere_3 : decode cX0_clothsThere 3 = .ok (.istore_n 2, 1) := by decide +kernel
theorem dX0_clothsThere_4 : decode cX0_clothsThere 4 = .ok (.iload_n 2, 1) := by decide +kernel
theorem dX0_clothsThere_5 : decode cX0_clothsThere 5 = .ok (.iconst 4, 1) := by decide +kernel
theorem dX0_clothsThere_6 : decode cX0_clothsThere 6 = .ok (.if_icmp .ge 24, 3) := by decide +kernel
theorem dX0_clothsThere_30 : decode cX0_clothsThere 30 = .ok (.iload_n 1, 1) := by decide +kernel
theorem dX0_clothsThere_31 : decode cX0_clothsThere 31 = .ok (.ireturn, 1) := by decide +kernel
theorem dX0_clothsThere_9 : decode cX0_clothsThere 9 = .ok (.aload_n 0, 1) := by decide +kernel
theorem dX0_clothsThere_10 : decode cX0_clothsThere 10 = .ok (.getfield 44, 3) := by decide +kernel
theorem dX0_clothsThere_13 : decode cX0_clothsThere 13 = .ok (.iload_n 2, 1) := by decide +kernel
theorem dX0_clothsThere_14 : decode cX0_clothsThere 14 = .ok (.aaload, 1) := by decide +kernel
theorem dX0_clothsThere_15 : decode cX0_clothsThere 15 = .ok (.getfield 72, 3) := by decide +kernel
theorem dX0_clothsThere_18 : decode cX0_clothsThere 18 = .ok (.ifCond .eq 6, 3) := by decide +kernel
theorem dX0_clothsThere_24 : decode cX0_clothsThere 24 = .ok (.iinc 2 1, 3) := by decide +kernel
theorem dX0_clothsThere_27 : decode cX0_clothsThere 27 = .ok (.goto (-23), 3) := by decide +kernel
theorem dX0_clothsThere_21 : decode cX0_clothsThere 21 = .ok (.iinc 1 1, 3) := by decide +kernel
theorem dX11_feed_0 : decode cX11_feed 0 = .ok (.aload_n 0, 1) := by decide +kernel
theorem dX11_feed_1 : decode cX11_feed 1 = .ok (.getfield 12, 3) := by decide +kernel
theorem dX11_feed_4 : decode cX11_feed 4 = .ok (.bipush 20, 2) := by decide +kernel
theorem dX11_feed_6 : decode cX11_feed 6 = .ok (.invokevirtual 97, 3) := by decide +kernel
theorem dX11_feed_9 : decode cX11_feed 9 = .ok (.ifCond .ne 5, 3) := by decide +kernel
theorem dX11_feed_14 : decode cX11_feed 14 = .ok (.aload_n 0, 1) := by decide +kernel
theorem dX11_feed_15 : decode cX11_feed 15 = .ok (.getfield 12, 3) := by decide +kernel
theorem dX11_feed_18 : decode cX11_feed 18 = .ok (.iload_n 1, 1) := by decide +kernel
theorem dX11_feed_19 : decode cX11_feed 19 = .ok (.invokevirtual 101, 3) := by decide +kernel
theorem dX11_feed_22 : decode cX11_feed 22 = .ok (.aload_n 0, 1) := by decide +kernel
theorem dX11_feed_23 : decode cX11_feed 23 = .ok (.getfield 12, 3) := by decide +kernel
theorem dX11_feed_26 : decode cX11_feed 26 = .ok (.iload_n 2, 1) := by decide +kernel
theorem dX11_feed_27 : decode cX11_feed 27 = .ok (.invokevirtual 101, 3) := by decide +kernel
theorem dX11_feed_30 : decode cX11_feed 30 = .ok (.aload_n 0, 1) := by decide +kernel
theorem dX11_feed_31 : decode cX11_feed 31 = .ok (.getfield 12, 3) := by decide +kernel
theorem dX11_feed_34 : decode cX11_feed 34 = .ok (.iload_n 3, 1) := by decide +kernel
theorem dX11_feed_35 : decode cX11_feed 35 = .ok (.invokevirtual 101, 3) := by decide +kernel
theorem dX11_feed_38 : decode cX11_feed 38 = .ok (.aload_n 0, 1) := by decide +kernel
theorem dX11_feed_39 : decode cX11_feed 39 = .ok (.getfield 12, 3) := by decide +kernel
theorem dX11_feed_42 : decode cX11_feed 42 = .ok (.iload 4, 2) := by decide +kernel
theorem dX11_feed_44 : decode cX11_feed 44 = .ok (.invokevirtual 101, 3) := by decide +kernel
theorem dX11_feed_47 : decode cX11_feed 47 = .ok (.aload_n 0, 1) := by decide +kernel
theorem dX11_feed_48 : decode cX11_feed 48 = .ok (.getfield 12, 3) := by decide +kernel
theorem dX11_feed_51 : decode cX11_feed 51 = .ok (.iload 5, 2) := by decide +kernel
theorem dX11_feed_53 : decode cX11_feed 53 = .ok (.invokevirtual 101, 3) := by decide +kernel
theorem dX11_feed_56 : decode cX11_feed 56 = .ok (.aload_n 0, 1) := by decide +kernel
theorem dX11_feed_57 : decode cX11_feed 57 = .ok (.getfield 12, 3) := by decide +kernel
theorem dX11_feed_60 : decode cX11_feed 60 = .ok (.getfield 105, 3) := by decide +kernel
theorem dX11_feed_63 : decode cX11_feed 63 = .ok (.ireturn, 1) := by decide +kernel
theorem dX11_feed_12 : decode cX11_feed 12 = .ok (.iconst (-1), 1) := by decide +kernel
theorem dX11_feed_13 : decode cX11_feed 13 = .ok (.ireturn, 1) := by decide +kernel
theorem dX11_end_0 : decode cX11_end 0 = .ok (.iload_n 1, 1) := by decide +kernel
theorem dX11_end_1 : decode cX11_end 1 = .ok (.ifCond .lt 14, 3) := by decide +kernel
theorem dX11_end_15 : decode cX11_end 15 = .ok (.iconst (-1), 1) := by decide +kernel
theorem dX11_end_16 : decode cX11_end 16 = .ok (.ireturn, 1) := by decide +kernel
theorem dX11_end_4 : decode cX11_end 4 = .ok (.iload_n 1, 1) := by decide +kernel
theorem dX11_end_5 : decode cX11_end 5 = .ok (.aload_n 0, 1) := by decide +kernel
theorem dX11_end_6 : decode cX11_end 6 = .ok (.getfield 12, 3) := by decide +kernel
theorem dX11_end_9 : decode cX11_end 9 = .ok (.getfield 105, 3) := by decide +kernel
theorem dX11_end_12 : decode cX11_end 12 = .ok (.if_icmp .le 5, 3) := by decide +kernel
theorem dX11_end_17 : decode cX11_end 17 = .ok (.aload_n 0, 1) := by decide +kernel
theorem dX11_end_18 : decode cX11_end 18 = .ok (.getfield 12, 3) := by decide +kernel
theorem dX11_end_21 : decode cX11_end 21 = .ok (.iload_n 1, 1) := by decide +kernel
theorem dX11_end_22 : decode cX11_end 22 = .ok (.putfield 105, 3) := by decide +kernel
theorem dX11_end_25 : decode cX11_end 25 = .ok (.iload_n 1, 1) := by decide +kernel
theorem dX11_end_26 : decode cX11_end 26 = .ok (.ireturn, 1) := by decide +kernel
theorem dX11_pattern_0 : decode cX11_pattern 0 = .ok (.aload_n 0, 1) := by decide +kernel
theorem dX11_pattern_1 : decode cX11_pattern 1 = .ok (.getfield 43, 3) := by decide +kernel
theorem dX11_pattern_4 : decode cX11_pattern 4 = .ok (.aload_n 0, 1) := by decide +kernel
theorem dX11_pattern_5 : decode cX11_pattern 5 = .ok (.getfield 12, 3) := by decide +kernel
theorem dX11_pattern_8 : decode cX11_pattern 8 = .ok (.invokevirtual 109, 3) := by decide +kernel
theorem dX11_pattern_11 : decode cX11_pattern 11 = .ok (.istore_n 1, 1) := by decide +kernel
theorem dX11_pattern_12 : decode cX11_pattern 12 = .ok (.aload_n 0, 1) := by decide +kernel
theorem dX11_pattern_13 : decode cX11_pattern 13 = .ok (.getfield 12, 3) := by decide +kernel
theorem dX11_pattern_16 : decode cX11_pattern 16 = .ok (.invokevirtual 113, 3) := by decide +kernel
theorem dX11_pattern_19 : decode cX11_pattern 19 = .ok (.iload_n 1, 1) := by decide +kernel
theorem dX11_pattern_20 : decode cX11_pattern 20 = .ok (.ifCond .ne 6, 3) := by decide +kernel
theorem dX11_pattern_26 : decode cX11_pattern 26 = .ok (.aload_n 0, 1) := by decide +kernel
theorem dX11_pattern_27 : decode cX11_pattern 27 = .ok (.getfield 19, 3) := by decide +kernel
theorem dX11_pattern_30 : decode cX11_pattern 30 = .ok (.getfield 116, 3) := by decide +kernel
theorem dX11_pattern_33 : decode cX11_pattern 33 = .ok (.aload_n 0, 1) := by decide +kernel
theorem dX11_pattern_34 : decode cX11_pattern 34 = .ok (.getfield 43, 3) := by decide +kernel
theorem dX11_pattern_37 : decode cX11_pattern 37 = .ok (.invokevirtual 119, 3) := by decide +kernel
theorem dX11_pattern_40 : decode cX11_pattern 40 = .ok (.aload_n 0, 1) := by decide +kernel
theorem dX11_pattern_41 : decode cX11_pattern 41 = .ok (.getfield 19, 3) := by decide +kernel
theorem dX11_pattern_44 : decode cX11_pattern 44 = .ok (.invokevirtual 123, 3) := by decide +kernel
theorem dX11_pattern_47 : decode cX11_pattern 47 = .ok (.aload_n 0, 1) := by decide +kernel
theorem dX11_pattern_48 : decode cX11_pattern 48 = .ok (.getfield 19, 3) := by decide +kernel
theorem dX11_pattern_51 : decode cX11_pattern 51 = .ok (.getfield 116, 3) := by decide +kernel
theorem dX11_pattern_54 : decode cX11_pattern 54 = .ok (.getfield 126, 3) := by decide +kernel
theorem dX11_pattern_57 : decode cX11_pattern 57 = .ok (.ireturn, 1) := by decide +kernel
theorem dX11_pattern_23 : decode cX11_pattern 23 = .ok (.bipush (-4), 2) := by decide +kernel
theorem dX11_pattern_25 : decode cX11_pattern 25 = .ok (.ireturn, 1) := by decide +kernel
theorem dX11_tellHand_0 : decode cX11_tellHand 0 = .ok (.aload_n 0, 1) := by decide +kernel
theorem dX11_tellHand_1 : decode cX11_tellHand 1 = .ok (.getfield 12, 3) := by decide +kernel
theorem dX11_tellHand_4 : decode cX11_tellHand 4 = .ok (.invokevirtual 387, 3) := by decide +kernel
theorem dX11_tellHand_7 : decode cX11_tellHand 7 = .ok (.aload_n 0, 1) := by decide +kernel
theorem dX11_tellHand_8 : decode cX11_tellHand 8 = .ok (.getfield 12, 3) := by decide +kernel
theorem dX11_tellHand_11 : decode cX11_tellHand 11 = .ok (.ldc_w 390, 3) := by decide +kernel
theorem dX11_tellHand_14 : decode cX11_tellHand 14 = .ok (.invokevirtual 392, 3) := by decide +kernel
theorem dX11_tellHand_17 : decode cX11_tellHand 17 = .ok (.iconst 0, 1) := by decide +kernel
theorem dX11_tellHand_18 : decode cX11_tellHand 18 = .ok (.istore_n 1, 1) := by decide +kernel
theorem dX11_tellHand_19 : decode cX11_tellHand 19 = .ok (.iload_n 1, 1) := by decide +kernel
theorem dX11_tellHand_20 : decode cX11_tellHand 20 = .ok (.iconst 3, 1) := by decide +kernel
theorem dX11_tellHand_21 : decode cX11_tellHand 21 = .ok (.if_icmp .ge 56, 3) := by decide +kernel
theorem dX11_tellHand_77 : decode cX11_tellHand 77 = .ok (.aload_n 0, 1) := by decide +kernel
theorem dX11_tellHand_78 : decode cX11_tellHand 78 = .ok (.getfield 12, 3) := by decide +kernel
theorem dX11_tellHand_81 : decode cX11_tellHand 81 = .ok (.invokevirtual 405, 3) := by decide +kernel
theorem dX11_tellHand_84 : decode cX11_tellHand 84 = .ok (.aload_n 0, 1) := by decide +kernel
theorem dX11_tellHand_85 : decode cX11_tellHand 85 = .ok (.getfield 12, 3) := by decide +kernel
theorem dX11_tellHand_88 : decode cX11_tellHand 88 = .ok (.invokevirtual 408, 3) := by decide +kernel
theorem dX11_tellHand_91 : decode cX11_tellHand 91 = .ok (.aload_n 0, 1) := by decide +kernel
theorem dX11_tellHand_92 : decode cX11_tellHand 92 = .ok (.getfield 12, 3) := by decide +kernel
theorem dX11_tellHand_95 : decode cX11_tellHand 95 = .ok (.invokevirtual 411, 3) := by decide +kernel
theorem dX11_tellHand_98 : decode cX11_tellHand 98 = .ok (.ireturn, 1) := by decide +kernel
theorem dX11_tellHand_24 : decode cX11_tellHand 24 = .ok (.aload_n 0, 1) := by decide +kernel
theorem dX11_tellHand_25 : decode cX11_tellHand 25 = .ok (.getfield 12, 3) := by decide +kernel
theorem dX11_tellHand_28 : decode cX11_tellHand 28 = .ok (.iload_n 1, 1) := by decide +kernel
theorem dX11_tellHand_52 : decode cX11_tellHand 52 = .ok (.invokevirtual 392, 3) := by decide +kernel
theorem dX11_tellHand_55 : decode cX11_tellHand 55 = .ok (.aload_n 0, 1) := by decide +kernel
theorem dX11_tellHand_56 : decode cX11_tellHand 56 = .ok (.getfield 47, 3) := by decide +kernel
theorem dX11_tellHand_59 : decode cX11_tellHand 59 = .ok (.iload_n 1, 1) := by decide +kernel
theorem dX11_tellHand_60 : decode cX11_tellHand 60 = .ok (.aload_n 0, 1) := by decide +kernel
theorem dX11_tellHand_61 : decode cX11_tellHand 61 = .ok (.getfield 12, 3) := by decide +kernel
theorem dX11_tellHand_64 : decode cX11_tellHand 64 = .ok (.iconst 0, 1) := by decide +kernel
theorem dX11_tellHand_65 : decode cX11_tellHand 65 = .ok (.bipush 100, 2) := by decide +kernel
theorem dX11_tellHand_67 : decode cX11_tellHand 67 = .ok (.invokevirtual 402, 3) := by decide +kernel
theorem dX11_tellHand_70 : decode cX11_tellHand 70 = .ok (.iastore, 1) := by decide +kernel
theorem dX11_tellHand_71 : decode cX11_tellHand 71 = .ok (.iinc 1 1, 3) := by decide +kernel
theorem dX11_tellHand_74 : decode cX11_tellHand 74 = .ok (.goto (-55), 3) := by decide +kernel
theorem dX11_tellHand_29 : decode cX11_tellHand 29 = .ok (.ifCond .ne 9, 3) := by decide +kernel
theorem dX11_tellHand_38 : decode cX11_tellHand 38 = .ok (.iload_n 1, 1) := by decide +kernel
theorem dX11_tellHand_39 : decode cX11_tellHand 39 = .ok (.iconst 1, 1) := by decide +kernel
theorem dX11_tellHand_40 : decode cX11_tellHand 40 = .ok (.if_icmp .ne 9, 3) := by decide +kernel
theorem dX11_tellHand_49 : decode cX11_tellHand 49 = .ok (.ldc_w 400, 3) := by decide +kernel
theorem dX11_tellHand_43 : decode cX11_tellHand 43 = .ok (.ldc_w 398, 3) := by decide +kernel
theorem dX11_tellHand_46 : decode cX11_tellHand 46 = .ok (.goto 6, 3) := by decide +kernel
theorem dX11_tellHand_32 : decode cX11_tellHand 32 = .ok (.ldc_w 396, 3) := by decide +kernel
theorem dX11_tellHand_35 : decode cX11_tellHand 35 = .ok (.goto 17, 3) := by decide +kernel
theorem dX11_hand_0 : decode cX11_hand 0 = .ok (.aload_n 0, 1) := by decide +kernel
theorem dX11_hand_1 : decode cX11_hand 1 = .ok (.invokevirtual 129, 3) := by decide +kernel
theorem dX11_hand_4 : decode cX11_hand 4 = .ok (.istore_n 1, 1) := by decide +kernel
theorem dX11_hand_5 : decode cX11_hand 5 = .ok (.aload_n 0, 1) := by decide +kernel
theorem dX11_hand_6 : decode cX11_hand 6 = .ok (.getfield 12, 3) := by decide +kernel
theorem dX11_hand_9 : decode cX11_hand 9 = .ok (.invokevirtual 113, 3) := by decide +kernel
theorem dX11_hand_12 : decode cX11_hand 12 = .ok (.iload_n 1, 1) := by decide +kernel
theorem dX11_hand_13 : decode cX11_hand 13 = .ok (.ifCond .ne 6, 3) := by decide +kernel
theorem dX11_hand_19 : decode cX11_hand 19 = .ok (.aload_n 0, 1) := by decide +kernel
theorem dX11_hand_20 : decode cX11_hand 20 = .ok (.getfield 47, 3) := by decide +kernel
theorem dX11_hand_23 : decode cX11_hand 23 = .ok (.iconst 0, 1) := by decide +kernel
theorem dX11_hand_24 : decode cX11_hand 24 = .ok (.aload_n 0, 1) := by decide +kernel
theorem dX11_hand_25 : decode cX11_hand 25 = .ok (.getfield 19, 3) := by decide +kernel
theorem dX11_hand_28 : decode cX11_hand 28 = .ok (.getfield 133, 3) := by decide +kernel
theorem dX11_hand_31 : decode cX11_hand 31 = .ok (.iconst 0, 1) := by decide +kernel
theorem dX11_hand_32 : decode cX11_hand 32 = .ok (.iconst 3, 1) := by decide +kernel
theorem dX11_hand_33 : decode cX11_hand 33 = .ok (.invokestatic 136, 3) := by decide +kernel
theorem dX11_hand_36 : decode cX11_hand 36 = .ok (.iconst 0, 1) := by decide +kernel
theorem dX11_hand_37 : decode cX11_hand 37 = .ok (.ireturn, 1) := by decide +kernel
theorem dX11_hand_16 : decode cX11_hand 16 = .ok (.bipush (-4), 2) := by decide +kernel
theorem dX11_hand_18 : decode cX11_hand 18 = .ok (.ireturn, 1) := by decide +kernel
theorem dX11_isWay_0 : decode cX11_isWay 0 = .ok (.iload_n 0, 1) := by decide +kernel
theorem dX11_isWay_1 : decode cX11_isWay 1 = .ok (.ifCond .lt 13, 3) := by decide +kernel
theorem dX11_isWay_14 : decode cX11_isWay 14 = .ok (.iconst 0, 1) := by decide +kernel
theorem dX11_isWay_15 : decode cX11_isWay 15 = .ok (.ireturn, 1) := by decide +kernel
theorem dX11_isWay_4 : decode cX11_isWay 4 = .ok (.iload_n 0, 1) := by decide +kernel
theorem dX11_isWay_5 : decode cX11_isWay 5 = .ok (.bipush 6, 2) := by decide +kernel
theorem dX11_isWay_7 : decode cX11_isWay 7 = .ok (.if_icmp .ge 7, 3) := by decide +kernel
theorem dX11_isWay_10 : decode cX11_isWay 10 = .ok (.iconst 1, 1) := by decide +kernel
theorem dX11_isWay_11 : decode cX11_isWay 11 = .ok (.goto 4, 3) := by decide +kernel
theorem dX11_bitsOf_0 : decode cX11_bitsOf 0 = .ok (.aload_n 0, 1) := by decide +kernel
theorem dX11_bitsOf_1 : decode cX11_bitsOf 1 = .ok (.getfield 78, 3) := by decide +kernel
theorem dX11_bitsOf_4 : decode cX11_bitsOf 4 = .ok (.aload_n 1, 1) := by decide +kernel
theorem dX11_bitsOf_5 : decode cX11_bitsOf 5 = .ok (.aload_n 0, 1) := by decide +kernel
theorem dX11_bitsOf_6 : decode cX11_bitsOf 6 = .ok (.getfield 19, 3) := by decide +kernel
theorem dX11_bitsOf_9 : decode cX11_bitsOf 9 = .ok (.getfield 116, 3) := by decide +kernel
theorem dX11_bitsOf_12 : decode cX11_bitsOf 12 = .ok (.invokevirtual 218, 3) := by decide +kernel
theorem dX11_bitsOf_15 : decode cX11_bitsOf 15 = .ok (.aload_n 0, 1) := by decide +kernel
theorem dX11_bitsOf_16 : decode cX11_bitsOf 16 = .ok (.getfield 78, 3) := by decide +kernel
theorem dX11_bitsOf_19 : decode cX11_bitsOf 19 = .ok (.getfield 222, 3) := by decide +kernel
theorem dX11_bitsOf_22 : decode cX11_bitsOf 22 = .ok (.ireturn, 1) := by decide +kernel
theorem dX11_way_0 : decode cX11_way 0 = .ok (.iload_n 1, 1) := by decide +kernel
theorem dX11_way_1 : decode cX11_way 1 = .ok (.invokestatic 142, 3) := by decide +kernel
theorem dX11_way_4 : decode cX11_way 4 = .ok (.ifCond .ne 6, 3) := by decide +kernel
theorem dX11_way_10 : decode cX11_way 10 = .ok (.aload_n 0, 1) := by decide +kernel
theorem dX11_way_11 : decode cX11_way 11 = .ok (.getfield 54, 3) := by decide +kernel
theorem dX11_way_14 : decode cX11_way 14 = .ok (.aload_n 0, 1) := by decide +kernel
theorem dX11_way_15 : decode cX11_way 15 = .ok (.getfield 12, 3) := by decide +kernel
theorem dX11_way_18 : decode cX11_way 18 = .ok (.invokevirtual 145, 3) := by decide +kernel
theorem dX11_way_21 : decode cX11_way 21 = .ok (.istore_n 2, 1) := by decide +kernel
theorem dX11_way_22 : decode cX11_way 22 = .ok (.aload_n 0, 1) := by decide +kernel
theorem dX11_way_23 : decode cX11_way 23 = .ok (.getfield 12, 3) := by decide +kernel
theorem dX11_way_26 : decode cX11_way 26 = .ok (.invokevirtual 113, 3) := by decide +kernel
theorem dX11_way_29 : decode cX11_way 29 = .ok (.iload_n 2, 1) := by decide +kernel
theorem dX11_way_30 : decode cX11_way 30 = .ok (.ifCond .ne 6, 3) := by decide +kernel
theorem dX11_way_36 : decode cX11_way 36 = .ok (.aload_n 0, 1) := by decide +kernel
theorem dX11_way_37 : decode cX11_way 37 = .ok (.getfield 19, 3) := by decide +kernel
theorem dX11_way_40 : decode cX11_way 40 = .ok (.getfield 146, 3) := by decide +kernel
theorem dX11_way_43 : decode cX11_way 43 = .ok (.iload_n 1, 1) := by decide +kernel
theorem dX11_way_44 : decode cX11_way 44 = .ok (.aaload, 1) := by decide +kernel
theorem dX11_way_45 : decode cX11_way 45 = .ok (.aload_n 0, 1) := by decide +kernel
theorem dX11_way_46 : decode cX11_way 46 = .ok (.getfield 54, 3) := by decide +kernel
theorem dX11_way_49 : decode cX11_way 49 = .ok (.invokevirtual 150, 3) := by decide +kernel
theorem dX11_way_52 : decode cX11_way 52 = .ok (.aload_n 0, 1) := by decide +kernel
theorem dX11_way_53 : decode cX11_way 53 = .ok (.aload_n 0, 1) := by decide +kernel
theorem dX11_way_54 : decode cX11_way 54 = .ok (.getfield 19, 3) := by decide +kernel
theorem dX11_way_57 : decode cX11_way 57 = .ok (.getfield 146, 3) := by decide +kernel
theorem dX11_way_60 : decode cX11_way 60 = .ok (.iload_n 1, 1) := by decide +kernel
theorem dX11_way_61 : decode cX11_way 61 = .ok (.aaload, 1) := by decide +kernel
theorem dX11_way_62 : decode cX11_way 62 = .ok (.invokevirtual 153, 3) := by decide +kernel
theorem dX11_way_65 : decode cX11_way 65 = .ok (.ireturn, 1) := by decide +kernel
theorem dX11_way_33 : decode cX11_way 33 = .ok (.bipush (-4), 2) := by decide +kernel
theorem dX11_way_35 : decode cX11_way 35 = .ok (.ireturn, 1) := by decide +kernel
theorem dX11_way_7 : decode cX11_way 7 = .ok (.bipush (-2), 2) := by decide +kernel
theorem dX11_way_9 : decode cX11_way 9 = .ok (.ireturn, 1) := by decide +kernel
theorem dX11_watcher_0 : decode cX11_watcher 0 = .ok (.aload_n 0, 1) := by decide +kernel
theorem dX11_watcher_1 : decode cX11_watcher 1 = .ok (.getfield 61, 3) := by decide +kernel
theorem dX11_watcher_4 : decode cX11_watcher 4 = .ok (.aload_n 0, 1) := by decide +kernel
theorem dX11_watcher_5 : decode cX11_watcher 5 = .ok (.getfield 12, 3) := by decide +kernel
theorem dX11_watcher_8 : decode cX11_watcher 8 = .ok (.invokevirtual 157, 3) := by decide +kernel
theorem dX11_watcher_11 : decode cX11_watcher 11 = .ok (.istore_n 1, 1) := by decide +kernel
theorem dX11_watcher_12 : decode cX11_watcher 12 = .ok (.aload_n 0, 1) := by decide +kernel
theorem dX11_watcher_13 : decode cX11_watcher 13 = .ok (.getfield 12, 3) := by decide +kernel
theorem dX11_watcher_16 : decode cX11_watcher 16 = .ok (.invokevirtual 113, 3) := by decide +kernel
theorem dX11_watcher_19 : decode cX11_watcher 19 = .ok (.iload_n 1, 1) := by decide +kernel
theorem dX11_watcher_20 : decode cX11_watcher 20 = .ok (.ifCond .ne 6, 3) := by decide +kernel
theorem dX11_watcher_26 : decode cX11_watcher 26 = .ok (.aload_n 0, 1) := by decide +kernel
theorem dX11_watcher_27 : decode cX11_watcher 27 = .ok (.getfield 19, 3) := by decide +kernel
theorem dX11_watcher_30 : decode cX11_watcher 30 = .ok (.getfield 158, 3) := by decide +kernel
theorem dX11_watcher_33 : decode cX11_watcher 33 = .ok (.aload_n 0, 1) := by decide +kernel
theorem dX11_watcher_34 : decode cX11_watcher 34 = .ok (.getfield 61, 3) := by decide +kernel
theorem dX11_watcher_37 : decode cX11_watcher 37 = .ok (.invokevirtual 161, 3) := by decide +kernel
theorem dX11_watcher_40 : decode cX11_watcher 40 = .ok (.aload_n 0, 1) := by decide +kernel
theorem dX11_watcher_41 : decode cX11_watcher 41 = .ok (.getfield 19, 3) := by decide +kernel
theorem dX11_watcher_44 : decode cX11_watcher 44 = .ok (.getfield 158, 3) := by decide +kernel
theorem dX11_watcher_47 : decode cX11_watcher 47 = .ok (.getfield 164, 3) := by decide +kernel
theorem dX11_watcher_50 : decode cX11_watcher 50 = .ok (.ireturn, 1) := by decide +kernel
theorem dX11_watcher_23 : decode cX11_watcher 23 = .ok (.bipush (-4), 2) := by decide +kernel
theorem dX11_watcher_25 : decode cX11_watcher 25 = .ok (.ireturn, 1) := by decide +kernel
theorem dX11_losses_0 : decode cX11_losses 0 = .ok (.aload_n 0, 1) := by decide +kernel
theorem dX11_losses_1 : decode cX11_losses 1 = .ok (.getfield 68, 3) := by decide +kernel
theorem dX11_losses_4 : decode cX11_losses 4 = .ok (.aload_n 0, 1) := by decide +kernel
theorem dX11_losses_5 : decode cX11_losses 5 = .ok (.getfield 12, 3) := by decide +kernel
theorem dX11_losses_8 : decode cX11_losses 8 = .ok (.invokevirtual 167, 3) := by decide +kernel
theorem dX11_losses_11 : decode cX11_losses 11 = .ok (.istore_n 1, 1) := by decide +kernel
theorem dX11_losses_12 : decode cX11_losses 12 = .ok (.aload_n 0, 1) := by decide +kernel
theorem dX11_losses_13 : decode cX11_losses 13 = .ok (.getfield 12, 3) := by decide +kernel
theorem dX11_losses_16 : decode cX11_losses 16 = .ok (.invokevirtual 113, 3) := by decide +kernel
theorem dX11_losses_19 : decode cX11_losses 19 = .ok (.iload_n 1, 1) := by decide +kernel
theorem dX11_losses_20 : decode cX11_losses 20 = .ok (.ifCond .ne 6, 3) := by decide +kernel
theorem dX11_losses_26 : decode cX11_losses 26 = .ok (.aload_n 0, 1) := by decide +kernel
theorem dX11_losses_27 : decode cX11_losses 27 = .ok (.getfield 19, 3) := by decide +kernel
theorem dX11_losses_30 : decode cX11_losses 30 = .ok (.getfield 168, 3) := by decide +kernel
theorem dX11_losses_33 : decode cX11_losses 33 = .ok (.aload_n 0, 1) := by decide +kernel
theorem dX11_losses_34 : decode cX11_losses 34 = .ok (.getfield 68, 3) := by decide +kernel
theorem dX11_losses_37 : decode cX11_losses 37 = .ok (.invokevirtual 171, 3) := by decide +kernel
theorem dX11_losses_40 : decode cX11_losses 40 = .ok (.aload_n 0, 1) := by decide +kernel
theorem dX11_losses_41 : decode cX11_losses 41 = .ok (.getfield 19, 3) := by decide +kernel
theorem dX11_losses_44 : decode cX11_losses 44 = .ok (.getfield 168, 3) := by decide +kernel
theorem dX11_losses_47 : decode cX11_losses 47 = .ok (.getfield 174, 3) := by decide +kernel
theorem dX11_losses_50 : decode cX11_losses 50 = .ok (.ireturn, 1) := by decide +kernel
theorem dX11_losses_23 : decode cX11_losses 23 = .ok (.bipush (-4), 2) := by decide +kernel
theorem dX11_losses_25 : decode cX11_losses 25 = .ok (.ireturn, 1) := by decide +kernel
theorem dX11_fault_0 : decode cX11_fault 0 = .ok (.iload_n 1, 1) := by decide +kernel
theorem dX11_fault_1 : decode cX11_fault 1 = .ok (.lookupswitch 43 #[(0, 27), (1, 35)], 27) := by decide +kernel
theorem dX11_fault_28 : decode cX11_fault 28 = .ok (.aload_n 0, 1) := by decide +kernel
theorem dX11_fault_29 : decode cX11_fault 29 = .ok (.getfield 12, 3) := by decide +kernel
theorem dX11_fault_32 : decode cX11_fault 32 = .ok (.getfield 175, 3) := by decide +kernel
theorem dX11_fault_35 : decode cX11_fault 35 = .ok (.ireturn, 1) := by decide +kernel
theorem dX11_fault_36 : decode cX11_fault 36 = .ok (.aload_n 0, 1) := by decide +kernel
theorem dX11_fault_37 : decode cX11_fault 37 = .ok (.getfield 12, 3) := by decide +kernel
theorem dX11_fault_40 : decode cX11_fault 40 = .ok (.getfield 178, 3) := by decide +kernel
theorem dX11_fault_43 : decode cX11_fault 43 = .ok (.ireturn, 1) := by decide +kernel
theorem dX11_fault_44 : decode cX11_fault 44 = .ok (.iconst (-1), 1) := by decide +kernel
theorem dX11_fault_45 : decode cX11_fault 45 = .ok (.ireturn, 1) := by decide +kernel
theorem dX11_isCloth_0 : decode cX11_isCloth 0 = .ok (.iload_n 0, 1) := by decide +kernel
theorem dX11_isCloth_1 : decode cX11_isCloth 1 = .ok (.ifCond .lt 12, 3) := by decide +kernel
theorem dX11_isCloth_13 : decode cX11_isCloth 13 = .ok (.iconst 0, 1) := by decide +kernel
theorem dX11_isCloth_14 : decode cX11_isCloth 14 = .ok (.ireturn, 1) := by decide +kernel
theorem dX11_isCloth_4 : decode cX11_isCloth 4 = .ok (.iload_n 0, 1) := by decide +kernel
theorem dX11_isCloth_5 : decode cX11_isCloth 5 = .ok (.iconst 4, 1) := by decide +kernel
theorem dX11_isCloth_6 : decode cX11_isCloth 6 = .ok (.if_icmp .ge 7, 3) := by decide +kernel
theorem dX11_isCloth_9 : decode cX11_isCloth 9 = .ok (.iconst 1, 1) := by decide +kernel
theorem dX11_isCloth_10 : decode cX11_isCloth 10 = .ok (.goto 4, 3) := by decide +kernel
theorem dX11_isSeed_0 : decode cX11_isSeed 0 = .ok (.iload_n 0, 1) := by decide +kernel
theorem dX11_isSeed_1 : decode cX11_isSeed 1 = .ok (.ifCond .lt 14, 3) := by decide +kernel
theorem dX11_isSeed_15 : decode cX11_isSeed 15 = .ok (.iconst 0, 1) := by decide +kernel
theorem dX11_isSeed_16 : decode cX11_isSeed 16 = .ok (.ireturn, 1) := by decide +kernel
theorem dX11_isSeed_4 : decode cX11_isSeed 4 = .ok (.iload_n 0, 1) := by decide +kernel
theorem dX11_isSeed_5 : decode cX11_isSeed 5 = .ok (.ldc_w 385, 3) := by decide +kernel
theorem dX11_isSeed_8 : decode cX11_isSeed 8 = .ok (.if_icmp .gt 7, 3) := by decide +kernel
theorem dX11_isSeed_11 : decode cX11_isSeed 11 = .ok (.iconst 1, 1) := by decide +kernel
theorem dX11_isSeed_12 : decode cX11_isSeed 12 = .ok (.goto 4, 3) := by decide +kernel
theorem dX11_knit_0 : decode cX11_knit 0 = .ok (.iload_n 1, 1) := by decide +kernel
theorem dX11_knit_1 : decode cX11_knit 1 = .ok (.invokestatic 181, 3) := by decide +kernel
theorem dX11_knit_4 : decode cX11_knit 4 = .ok (.ifCond .eq 10, 3) := by decide +kernel
theorem dX11_knit_14 : decode cX11_knit 14 = .ok (.bipush (-2), 2) := by decide +kernel
theorem dX11_knit_16 : decode cX11_knit 16 = .ok (.ireturn, 1) := by decide +kernel
theorem dX11_knit_7 : decode cX11_knit 7 = .ok (.iload_n 2, 1) := by decide +kernel
theorem dX11_knit_8 : decode cX11_knit 8 = .ok (.invokestatic 184, 3) := by decide +kernel
theorem dX11_knit_11 : decode cX11_knit 11 = .ok (.ifCond .ne 6, 3) := by decide +kernel
theorem dX11_knit_17 : decode cX11_knit 17 = .ok (.aload_n 0, 1) := by decide +kernel
theorem dX11_knit_18 : decode cX11_knit 18 = .ok (.getfield 19, 3) := by decide +kernel
theorem dX11_knit_21 : decode cX11_knit 21 = .ok (.getfield 116, 3) := by decide +kernel
theorem dX11_knit_24 : decode cX11_knit 24 = .ok (.invokevirtual 187, 3) := by decide +kernel
theorem dX11_knit_27 : decode cX11_knit 27 = .ok (.ifCond .ne 6, 3) := by decide +kernel
theorem dX11_knit_33 : decode cX11_knit 33 = .ok (.aload_n 0, 1) := by decide +kernel
theorem dX11_knit_34 : decode cX11_knit 34 = .ok (.getfield 19, 3) := by decide +kernel
theorem dX11_knit_37 : decode cX11_knit 37 = .ok (.getfield 190, 3) := by decide +kernel
theorem dX11_knit_40 : decode cX11_knit 40 = .ok (.iload_n 1, 1) := by decide +kernel
theorem dX11_knit_41 : decode cX11_knit 41 = .ok (.aaload, 1) := by decide +kernel
theorem dX11_knit_42 : decode cX11_knit 42 = .ok (.aload_n 0, 1) := by decide +kernel
theorem dX11_knit_43 : decode cX11_knit 43 = .ok (.getfield 19, 3) := by decide +kernel
theorem dX11_knit_46 : decode cX11_knit 46 = .ok (.getfield 116, 3) := by decide +kernel
theorem dX11_knit_49 : decode cX11_knit 49 = .ok (.aload_n 0, 1) := by decide +kernel
theorem dX11_knit_50 : decode cX11_knit 50 = .ok (.getfield 19, 3) := by decide +kernel
theorem dX11_knit_53 : decode cX11_knit 53 = .ok (.getfield 133, 3) := by decide +kernel
theorem dX11_knit_56 : decode cX11_knit 56 = .ok (.iload_n 2, 1) := by decide +kernel
theorem dX11_knit_57 : decode cX11_knit 57 = .ok (.invokevirtual 194, 3) := by decide +kernel
theorem dX11_knit_60 : decode cX11_knit 60 = .ok (.ireturn, 1) := by decide +kernel
theorem dX11_knit_30 : decode cX11_knit 30 = .ok (.bipush (-6), 2) := by decide +kernel
theorem dX11_knit_32 : decode cX11_knit 32 = .ok (.ireturn, 1) := by decide +kernel
theorem dX11_hasCloth_0 : decode cX11_hasCloth 0 = .ok (.iload_n 1, 1) := by decide +kernel
theorem dX11_hasCloth_1 : decode cX11_hasCloth 1 = .ok (.invokestatic 181, 3) := by decide +kernel
theorem dX11_hasCloth_4 : decode cX11_hasCloth 4 = .ok (.ifCond .eq 22, 3) := by decide +kernel
theorem dX11_hasCloth_26 : decode cX11_hasCloth 26 = .ok (.iconst 0, 1) := by decide +kernel
theorem dX11_hasCloth_27 : decode cX11_hasCloth 27 = .ok (.ireturn, 1) := by decide +kernel
theorem dX11_hasCloth_7 : decode cX11_hasCloth 7 = .ok (.aload_n 0, 1) := by decide +kernel
theorem dX11_hasCloth_8 : decode cX11_hasCloth 8 = .ok (.getfield 19, 3) := by decide +kernel
theorem dX11_hasCloth_11 : decode cX11_hasCloth 11 = .ok (.getfield 190, 3) := by decide +kernel
theorem dX11_hasCloth_14 : decode cX11_hasCloth 14 = .ok (.iload_n 1, 1) := by decide +kernel
theorem dX11_hasCloth_15 : decode cX11_hasCloth 15 = .ok (.aaload, 1) := by decide +kernel
theorem dX11_hasCloth_16 : decode cX11_hasCloth 16 = .ok (.getfield 386, 3) := by decide +kernel
theorem dX11_hasCloth_19 : decode cX11_hasCloth 19 = .ok (.ifCond .eq 7, 3) := by decide +kernel
theorem dX11_hasCloth_22 : decode cX11_hasCloth 22 = .ok (.iconst 1, 1) := by decide +kernel
theorem dX11_hasCloth_23 : decode cX11_hasCloth 23 = .ok (.goto 4, 3) := by decide +kernel
theorem dX11_refusalOfReading_0 : decode cX11_refusalOfReading 0 = .ok (.iload_n 1, 1) := by decide +kernel
theorem dX11_refusalOfReading_1 : decode cX11_refusalOfReading 1 = .ok (.invokestatic 181, 3) := by decide +kernel
theorem dX11_refusalOfReading_4 : decode cX11_refusalOfReading 4 = .ok (.ifCond .eq 10, 3) := by decide +kernel
theorem dX11_refusalOfReading_14 : decode cX11_refusalOfReading 14 = .ok (.bipush (-2), 2) := by decide +kernel
theorem dX11_refusalOfReading_16 : decode cX11_refusalOfReading 16 = .ok (.ireturn, 1) := by decide +kernel
theorem dX11_refusalOfReading_7 : decode cX11_refusalOfReading 7 = .ok (.iload_n 2, 1) := by decide +kernel
theorem dX11_refusalOfReading_8 : decode cX11_refusalOfReading 8 = .ok (.invokestatic 142, 3) := by decide +kernel
theorem dX11_refusalOfReading_11 : decode cX11_refusalOfReading 11 = .ok (.ifCond .ne 6, 3) := by decide +kernel
theorem dX11_refusalOfReading_17 : decode cX11_refusalOfReading 17 = .ok (.aload_n 0, 1) := by decide +kernel
theorem dX11_refusalOfReading_18 : decode cX11_refusalOfReading 18 = .ok (.iload_n 1, 1) := by decide +kernel
theorem dX11_refusalOfReading_19 : decode cX11_refusalOfReading 19 = .ok (.invokevirtual 239, 3) := by decide +kernel
theorem dX11_refusalOfReading_22 : decode cX11_refusalOfReading 22 = .ok (.ifCond .eq 22, 3) := by decide +kernel
theorem dX11_refusalOfReading_44 : decode cX11_refusalOfReading 44 = .ok (.bipush (-6), 2) := by decide +kernel
theorem dX11_refusalOfReading_46 : decode cX11_refusalOfReading 46 = .ok (.ireturn, 1) := by decide +kernel
theorem dX11_refusalOfReading_25 : decode cX11_refusalOfReading 25 = .ok (.aload_n 0, 1) := by decide +kernel
theorem dX11_refusalOfReading_26 : decode cX11_refusalOfReading 26 = .ok (.getfield 19, 3) := by decide +kernel
theorem dX11_refusalOfReading_29 : decode cX11_refusalOfReading 29 = .ok (.getfield 146, 3) := by decide +kernel
theorem dX11_refusalOfReading_32 : decode cX11_refusalOfReading 32 = .ok (.iload_n 2, 1) := by decide +kernel
theorem dX11_refusalOfReading_33 : decode cX11_refusalOfReading 33 = .ok (.aaload, 1) := by decide +kernel
theorem dX11_refusalOfReading_34 : decode cX11_refusalOfReading 34 = .ok (.getfield 232, 3) := by decide +kernel
theorem dX11_refusalOfReading_37 : decode cX11_refusalOfReading 37 = .ok (.ifCond .eq 7, 3) := by decide +kernel
theorem dX11_refusalOfReading_40 : decode cX11_refusalOfReading 40 = .ok (.iconst 0, 1) := by decide +kernel
theorem dX11_refusalOfReading_41 : decode cX11_refusalOfReading 41 = .ok (.goto 5, 3) := by decide +kernel
theorem dX11_putTape_0 : decode cX11_putTape 0 = .ok (.aload_n 0, 1) := by decide +kernel
theorem dX11_putTape_1 : decode cX11_putTape 1 = .ok (.getfield 12, 3) := by decide +kernel
theorem dX11_putTape_4 : decode cX11_putTape 4 = .ok (.invokevirtual 414, 3) := by decide +kernel
theorem dX11_putTape_7 : decode cX11_putTape 7 = .ok (.ifCond .ne 6, 3) := by decide +kernel
theorem dX11_putTape_13 : decode cX11_putTape 13 = .ok (.aload_n 0, 1) := by decide +kernel
theorem dX11_putTape_14 : decode cX11_putTape 14 = .ok (.getfield 78, 3) := by decide +kernel
theorem dX11_putTape_17 : decode cX11_putTape 17 = .ok (.aload_n 2, 1) := by decide +kernel
theorem dX11_putTape_18 : decode cX11_putTape 18 = .ok (.aload_n 0, 1) := by decide +kernel
theorem dX11_putTape_19 : decode cX11_putTape 19 = .ok (.getfield 19, 3) := by decide +kernel
theorem dX11_putTape_22 : decode cX11_putTape 22 = .ok (.getfield 116, 3) := by decide +kernel
theorem dX11_putTape_25 : decode cX11_putTape 25 = .ok (.invokevirtual 218, 3) := by decide +kernel
theorem dX11_putTape_28 : decode cX11_putTape 28 = .ok (.aload_n 0, 1) := by decide +kernel
theorem dX11_putTape_29 : decode cX11_putTape 29 = .ok (.getfield 78, 3) := by decide +kernel
theorem dX11_putTape_32 : decode cX11_putTape 32 = .ok (.aload_n 0, 1) := by decide +kernel
theorem dX11_putTape_33 : decode cX11_putTape 33 = .ok (.getfield 12, 3) := by decide +kernel
theorem dX11_putTape_36 : decode cX11_putTape 36 = .ok (.getfield 105, 3) := by decide +kernel
theorem dX11_putTape_39 : decode cX11_putTape 39 = .ok (.invokevirtual 282, 3) := by decide +kernel
theorem dX11_putTape_42 : decode cX11_putTape 42 = .ok (.ifCond .ne 6, 3) := by decide +kernel
theorem dX11_putTape_48 : decode cX11_putTape 48 = .ok (.aload_n 0, 1) := by decide +kernel
theorem dX11_putTape_49 : decode cX11_putTape 49 = .ok (.getfield 72, 3) := by decide +kernel
theorem dX11_putTape_52 : decode cX11_putTape 52 = .ok (.aload_n 0, 1) := by decide +kernel
theorem dX11_putTape_53 : decode cX11_putTape 53 = .ok (.getfield 12, 3) := by decide +kernel
theorem dX11_putTape_56 : decode cX11_putTape 56 = .ok (.invokevirtual 417, 3) := by decide +kernel
theorem dX11_putTape_59 : decode cX11_putTape 59 = .ok (.aload_n 0, 1) := by decide +kernel
theorem dX11_putTape_60 : decode cX11_putTape 60 = .ok (.getfield 72, 3) := by decide +kernel
theorem dX11_putTape_63 : decode cX11_putTape 63 = .ok (.aload_n 1, 1) := by decide +kernel
theorem dX11_putTape_64 : decode cX11_putTape 64 = .ok (.aload_n 0, 1) := by decide +kernel
theorem dX11_putTape_65 : decode cX11_putTape 65 = .ok (.getfield 19, 3) := by decide +kernel
theorem dX11_putTape_68 : decode cX11_putTape 68 = .ok (.getfield 116, 3) := by decide +kernel
theorem dX11_putTape_71 : decode cX11_putTape 71 = .ok (.aload_n 0, 1) := by decide +kernel
theorem dX11_putTape_72 : decode cX11_putTape 72 = .ok (.getfield 78, 3) := by decide +kernel
theorem dX11_putTape_75 : decode cX11_putTape 75 = .ok (.invokevirtual 283, 3) := by decide +kernel
theorem dX11_putTape_78 : decode cX11_putTape 78 = .ok (.ireturn, 1) := by decide +kernel
theorem dX11_putTape_45 : decode cX11_putTape 45 = .ok (.bipush (-3), 2) := by decide +kernel
theorem dX11_putTape_47 : decode cX11_putTape 47 = .ok (.ireturn, 1) := by decide +kernel
theorem dX11_putTape_10 : decode cX11_putTape 10 = .ok (.bipush (-4), 2) := by decide +kernel
theorem dX11_putTape_12 : decode cX11_putTape 12 = .ok (.ireturn, 1) := by decide +kernel
theorem dX11_put_0 : decode cX11_put 0 = .ok (.aload_n 0, 1) := by decide +kernel
theorem dX11_put_1 : decode cX11_put 1 = .ok (.iload_n 1, 1) := by decide +kernel
theorem dX11_put_2 : decode cX11_put 2 = .ok (.iload_n 2, 1) := by decide +kernel
theorem dX11_put_3 : decode cX11_put 3 = .ok (.invokevirtual 198, 3) := by decide +kernel
theorem dX11_put_6 : decode cX11_put 6 = .ok (.istore_n 3, 1) := by decide +kernel
theorem dX11_put_7 : decode cX11_put 7 = .ok (.iload_n 3, 1) := by decide +kernel
theorem dX11_put_8 : decode cX11_put 8 = .ok (.ifCond .eq 5, 3) := by decide +kernel
theorem dX11_put_13 : decode cX11_put 13 = .ok (.aload_n 0, 1) := by decide +kernel
theorem dX11_put_14 : decode cX11_put 14 = .ok (.aload_n 0, 1) := by decide +kernel
theorem dX11_put_15 : decode cX11_put 15 = .ok (.getfield 19, 3) := by decide +kernel
theorem dX11_put_18 : decode cX11_put 18 = .ok (.getfield 190, 3) := by decide +kernel
theorem dX11_put_21 : decode cX11_put 21 = .ok (.iload_n 1, 1) := by decide +kernel
theorem dX11_put_22 : decode cX11_put 22 = .ok (.aaload, 1) := by decide +kernel
theorem dX11_put_23 : decode cX11_put 23 = .ok (.aload_n 0, 1) := by decide +kernel
theorem dX11_put_24 : decode cX11_put 24 = .ok (.getfield 19, 3) := by decide +kernel
theorem dX11_put_27 : decode cX11_put 27 = .ok (.getfield 146, 3) := by decide +kernel
theorem dX11_put_30 : decode cX11_put 30 = .ok (.iload_n 2, 1) := by decide +kernel
theorem dX11_put_31 : decode cX11_put 31 = .ok (.aaload, 1) := by decide +kernel
theorem dX11_put_32 : decode cX11_put 32 = .ok (.invokevirtual 202, 3) := by decide +kernel
theorem dX11_put_35 : decode cX11_put 35 = .ok (.istore 4, 2) := by decide +kernel
theorem dX11_put_37 : decode cX11_put 37 = .ok (.aload_n 0, 1) := by decide +kernel
theorem dX11_put_38 : decode cX11_put 38 = .ok (.getfield 12, 3) := by decide +kernel
theorem dX11_put_41 : decode cX11_put 41 = .ok (.invokevirtual 113, 3) := by decide +kernel
theorem dX11_put_44 : decode cX11_put 44 = .ok (.iload 4, 2) := by decide +kernel
theorem dX11_put_46 : decode cX11_put 46 = .ok (.ireturn, 1) := by decide +kernel
theorem dX11_put_11 : decode cX11_put 11 = .ok (.iload_n 3, 1) := by decide +kernel
theorem dX11_put_12 : decode cX11_put 12 = .ok (.ireturn, 1) := by decide +kernel
theorem dX11_saysByWay_0 : decode cX11_saysByWay 0 = .ok (.aload_n 0, 1) := by decide +kernel
theorem dX11_saysByWay_1 : decode cX11_saysByWay 1 = .ok (.getfield 78, 3) := by decide +kernel
theorem dX11_saysByWay_4 : decode cX11_saysByWay 4 = .ok (.aload_n 2, 1) := by decide +kernel
theorem dX11_saysByWay_5 : decode cX11_saysByWay 5 = .ok (.aload_n 0, 1) := by decide +kernel
theorem dX11_saysByWay_6 : decode cX11_saysByWay 6 = .ok (.getfield 19, 3) := by decide +kernel
theorem dX11_saysByWay_9 : decode cX11_saysByWay 9 = .ok (.getfield 116, 3) := by decide +kernel
theorem dX11_saysByWay_12 : decode cX11_saysByWay 12 = .ok (.invokevirtual 218, 3) := by decide +kernel
theorem dX11_saysByWay_15 : decode cX11_saysByWay 15 = .ok (.aload_n 0, 1) := by decide +kernel
theorem dX11_saysByWay_16 : decode cX11_saysByWay 16 = .ok (.getfield 72, 3) := by decide +kernel
theorem dX11_saysByWay_19 : decode cX11_saysByWay 19 = .ok (.aload_n 1, 1) := by decide +kernel
theorem dX11_saysByWay_20 : decode cX11_saysByWay 20 = .ok (.aload_n 0, 1) := by decide +kernel
theorem dX11_saysByWay_21 : decode cX11_saysByWay 21 = .ok (.getfield 78, 3) := by decide +kernel
theorem dX11_saysByWay_24 : decode cX11_saysByWay 24 = .ok (.invokevirtual 421, 3) := by decide +kernel
theorem dX11_saysByWay_27 : decode cX11_saysByWay 27 = .ok (.ireturn, 1) := by decide +kernel
theorem dX11_read_0 : decode cX11_read 0 = .ok (.aload_n 0, 1) := by decide +kernel
theorem dX11_read_1 : decode cX11_read 1 = .ok (.iload_n 1, 1) := by decide +kernel
theorem dX11_read_2 : decode cX11_read 2 = .ok (.iload_n 2, 1) := by decide +kernel
theorem dX11_read_3 : decode cX11_read 3 = .ok (.invokevirtual 198, 3) := by decide +kernel
theorem dX11_read_6 : decode cX11_read 6 = .ok (.istore_n 3, 1) := by decide +kernel
theorem dX11_read_7 : decode cX11_read 7 = .ok (.iload_n 3, 1) := by decide +kernel
theorem dX11_read_8 : decode cX11_read 8 = .ok (.ifCond .eq 5, 3) := by decide +kernel
theorem dX11_read_13 : decode cX11_read 13 = .ok (.aload_n 0, 1) := by decide +kernel
theorem dX11_read_14 : decode cX11_read 14 = .ok (.aload_n 0, 1) := by decide +kernel
theorem dX11_read_15 : decode cX11_read 15 = .ok (.getfield 19, 3) := by decide +kernel
theorem dX11_read_18 : decode cX11_read 18 = .ok (.getfield 190, 3) := by decide +kernel
theorem dX11_read_21 : decode cX11_read 21 = .ok (.iload_n 1, 1) := by decide +kernel
theorem dX11_read_22 : decode cX11_read 22 = .ok (.aaload, 1) := by decide +kernel
theorem dX11_read_23 : decode cX11_read 23 = .ok (.aload_n 0, 1) := by decide +kernel
theorem dX11_read_24 : decode cX11_read 24 = .ok (.getfield 19, 3) := by decide +kernel
theorem dX11_read_27 : decode cX11_read 27 = .ok (.getfield 146, 3) := by decide +kernel
theorem dX11_read_30 : decode cX11_read 30 = .ok (.iload_n 2, 1) := by decide +kernel
theorem dX11_read_31 : decode cX11_read 31 = .ok (.aaload, 1) := by decide +kernel
theorem dX11_read_32 : decode cX11_read 32 = .ok (.invokevirtual 206, 3) := by decide +kernel
theorem dX11_read_35 : decode cX11_read 35 = .ok (.ifCond .ne 5, 3) := by decide +kernel
theorem dX11_read_40 : decode cX11_read 40 = .ok (.aload_n 0, 1) := by decide +kernel
theorem dX11_read_41 : decode cX11_read 41 = .ok (.getfield 30, 3) := by decide +kernel
theorem dX11_read_44 : decode cX11_read 44 = .ok (.aload_n 0, 1) := by decide +kernel
theorem dX11_read_45 : decode cX11_read 45 = .ok (.getfield 72, 3) := by decide +kernel
theorem dX11_read_48 : decode cX11_read 48 = .ok (.invokevirtual 210, 3) := by decide +kernel
theorem dX11_read_51 : decode cX11_read 51 = .ok (.aload_n 0, 1) := by decide +kernel
theorem dX11_read_52 : decode cX11_read 52 = .ok (.getfield 30, 3) := by decide +kernel
theorem dX11_read_55 : decode cX11_read 55 = .ok (.getfield 213, 3) := by decide +kernel
theorem dX11_read_58 : decode cX11_read 58 = .ok (.ireturn, 1) := by decide +kernel
theorem dX11_read_38 : decode cX11_read 38 = .ok (.iconst (-1), 1) := by decide +kernel
theorem dX11_read_39 : decode cX11_read 39 = .ok (.ireturn, 1) := by decide +kernel
theorem dX11_read_11 : decode cX11_read 11 = .ok (.iload_n 3, 1) := by decide +kernel
theorem dX11_read_12 : decode cX11_read 12 = .ok (.ireturn, 1) := by decide +kernel
theorem dX11_letter_0 : decode cX11_letter 0 = .ok (.aload_n 0, 1) := by decide +kernel
theorem dX11_letter_1 : decode cX11_letter 1 = .ok (.getfield 30, 3) := by decide +kernel
theorem dX11_letter_4 : decode cX11_letter 4 = .ok (.iload_n 1, 1) := by decide +kernel
theorem dX11_letter_5 : decode cX11_letter 5 = .ok (.invokevirtual 214, 3) := by decide +kernel
theorem dX11_letter_8 : decode cX11_letter 8 = .ok (.ireturn, 1) := by decide +kernel
theorem dX11_bit_0 : decode cX11_bit 0 = .ok (.aload_n 0, 1) := by decide +kernel
theorem dX11_bit_1 : decode cX11_bit 1 = .ok (.iload_n 1, 1) := by decide +kernel
theorem dX11_bit_2 : decode cX11_bit 2 = .ok (.iload_n 2, 1) := by decide +kernel
theorem dX11_bit_3 : decode cX11_bit 3 = .ok (.invokevirtual 198, 3) := by decide +kernel
theorem dX11_bit_6 : decode cX11_bit 6 = .ok (.istore 4, 2) := by decide +kernel
theorem dX11_bit_8 : decode cX11_bit 8 = .ok (.iload 4, 2) := by decide +kernel
theorem dX11_bit_10 : decode cX11_bit 10 = .ok (.ifCond .eq 6, 3) := by decide +kernel
theorem dX11_bit_16 : decode cX11_bit 16 = .ok (.aload_n 0, 1) := by decide +kernel
theorem dX11_bit_17 : decode cX11_bit 17 = .ok (.getfield 78, 3) := by decide +kernel
theorem dX11_bit_20 : decode cX11_bit 20 = .ok (.aload_n 0, 1) := by decide +kernel
theorem dX11_bit_21 : decode cX11_bit 21 = .ok (.getfield 19, 3) := by decide +kernel
theorem dX11_bit_24 : decode cX11_bit 24 = .ok (.getfield 146, 3) := by decide +kernel
theorem dX11_bit_27 : decode cX11_bit 27 = .ok (.iload_n 2, 1) := by decide +kernel
theorem dX11_bit_28 : decode cX11_bit 28 = .ok (.aaload, 1) := by decide +kernel
theorem dX11_bit_29 : decode cX11_bit 29 = .ok (.aload_n 0, 1) := by decide +kernel
theorem dX11_bit_30 : decode cX11_bit 30 = .ok (.getfield 19, 3) := by decide +kernel
theorem dX11_bit_33 : decode cX11_bit 33 = .ok (.getfield 116, 3) := by decide +kernel
theorem dX11_bit_36 : decode cX11_bit 36 = .ok (.invokevirtual 218, 3) := by decide +kernel
theorem dX11_bit_39 : decode cX11_bit 39 = .ok (.iload_n 3, 1) := by decide +kernel
theorem dX11_bit_40 : decode cX11_bit 40 = .ok (.ifCond .lt 14, 3) := by decide +kernel
theorem dX11_bit_54 : decode cX11_bit 54 = .ok (.iconst (-1), 1) := by decide +kernel
theorem dX11_bit_55 : decode cX11_bit 55 = .ok (.ireturn, 1) := by decide +kernel
theorem dX11_bit_43 : decode cX11_bit 43 = .ok (.iload_n 3, 1) := by decide +kernel
theorem dX11_bit_44 : decode cX11_bit 44 = .ok (.aload_n 0, 1) := by decide +kernel
theorem dX11_bit_45 : decode cX11_bit 45 = .ok (.getfield 78, 3) := by decide +kernel
theorem dX11_bit_48 : decode cX11_bit 48 = .ok (.getfield 222, 3) := by decide +kernel
theorem dX11_bit_51 : decode cX11_bit 51 = .ok (.if_icmp .lt 5, 3) := by decide +kernel
theorem dX11_bit_56 : decode cX11_bit 56 = .ok (.aload_n 0, 1) := by decide +kernel
theorem dX11_bit_57 : decode cX11_bit 57 = .ok (.getfield 78, 3) := by decide +kernel
theorem dX11_bit_60 : decode cX11_bit 60 = .ok (.aload_n 0, 1) := by decide +kernel
theorem dX11_bit_61 : decode cX11_bit 61 = .ok (.getfield 19, 3) := by decide +kernel
theorem dX11_bit_64 : decode cX11_bit 64 = .ok (.getfield 190, 3) := by decide +kernel
