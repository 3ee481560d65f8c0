theorem dX11_write_43 : decode cX11_write 43 = .ok (.getfield 36, 3) := by decide +kernel
theorem dX11_write_46 : decode cX11_write 46 = .ok (.iload_n 1, 1) := by decide +kernel
theorem dX11_write_47 : decode cX11_write 47 = .ok (.aaload, 1) := by decide +kernel
theorem dX11_write_48 : decode cX11_write 48 = .ok (.iload_n 2, 1) := by decide +kernel
theorem dX11_write_49 : decode cX11_write 49 = .ok (.lload_n 3, 1) := by decide +kernel
theorem dX11_write_50 : decode cX11_write 50 = .ok (.invokevirtual 364, 3) := by decide +kernel
theorem dX11_write_53 : decode cX11_write 53 = .ok (.iconst 0, 1) := by decide +kernel
theorem dX11_write_54 : decode cX11_write 54 = .ok (.ireturn, 1) := by decide +kernel
theorem dX11_write_39 : decode cX11_write 39 = .ok (.bipush (-7), 2) := by decide +kernel
theorem dX11_write_41 : decode cX11_write 41 = .ok (.ireturn, 1) := by decide +kernel
theorem dX11_write_22 : decode cX11_write 22 = .ok (.bipush (-6), 2) := by decide +kernel
theorem dX11_write_24 : decode cX11_write 24 = .ok (.ireturn, 1) := by decide +kernel
theorem dX11_write_7 : decode cX11_write 7 = .ok (.bipush (-2), 2) := by decide +kernel
theorem dX11_write_9 : decode cX11_write 9 = .ok (.ireturn, 1) := by decide +kernel
theorem dX11_paste_0 : decode cX11_paste 0 = .ok (.iload_n 1, 1) := by decide +kernel
theorem dX11_paste_1 : decode cX11_paste 1 = .ok (.invokestatic 353, 3) := by decide +kernel
theorem dX11_paste_4 : decode cX11_paste 4 = .ok (.ifCond .eq 10, 3) := by decide +kernel
theorem dX11_paste_14 : decode cX11_paste 14 = .ok (.bipush (-2), 2) := by decide +kernel
theorem dX11_paste_16 : decode cX11_paste 16 = .ok (.ireturn, 1) := by decide +kernel
theorem dX11_paste_7 : decode cX11_paste 7 = .ok (.iload_n 3, 1) := by decide +kernel
theorem dX11_paste_8 : decode cX11_paste 8 = .ok (.invokestatic 353, 3) := by decide +kernel
theorem dX11_paste_11 : decode cX11_paste 11 = .ok (.ifCond .ne 6, 3) := by decide +kernel
theorem dX11_paste_17 : decode cX11_paste 17 = .ok (.aload_n 0, 1) := by decide +kernel
theorem dX11_paste_18 : decode cX11_paste 18 = .ok (.getfield 36, 3) := by decide +kernel
theorem dX11_paste_21 : decode cX11_paste 21 = .ok (.iload_n 1, 1) := by decide +kernel
theorem dX11_paste_22 : decode cX11_paste 22 = .ok (.aaload, 1) := by decide +kernel
theorem dX11_paste_23 : decode cX11_paste 23 = .ok (.invokevirtual 359, 3) := by decide +kernel
theorem dX11_paste_26 : decode cX11_paste 26 = .ok (.ifCond .eq 15, 3) := by decide +kernel
theorem dX11_paste_41 : decode cX11_paste 41 = .ok (.bipush (-6), 2) := by decide +kernel
theorem dX11_paste_43 : decode cX11_paste 43 = .ok (.ireturn, 1) := by decide +kernel
theorem dX11_paste_29 : decode cX11_paste 29 = .ok (.aload_n 0, 1) := by decide +kernel
theorem dX11_paste_30 : decode cX11_paste 30 = .ok (.getfield 36, 3) := by decide +kernel
theorem dX11_paste_33 : decode cX11_paste 33 = .ok (.iload_n 3, 1) := by decide +kernel
theorem dX11_paste_34 : decode cX11_paste 34 = .ok (.aaload, 1) := by decide +kernel
theorem dX11_paste_35 : decode cX11_paste 35 = .ok (.invokevirtual 359, 3) := by decide +kernel
theorem dX11_paste_38 : decode cX11_paste 38 = .ok (.ifCond .ne 6, 3) := by decide +kernel
theorem dX11_paste_44 : decode cX11_paste 44 = .ok (.aload_n 0, 1) := by decide +kernel
theorem dX11_paste_45 : decode cX11_paste 45 = .ok (.getfield 36, 3) := by decide +kernel
theorem dX11_paste_48 : decode cX11_paste 48 = .ok (.iload_n 1, 1) := by decide +kernel
theorem dX11_paste_49 : decode cX11_paste 49 = .ok (.aaload, 1) := by decide +kernel
theorem dX11_paste_50 : decode cX11_paste 50 = .ok (.getfield 368, 3) := by decide +kernel
theorem dX11_paste_53 : decode cX11_paste 53 = .ok (.aload_n 0, 1) := by decide +kernel
theorem dX11_paste_54 : decode cX11_paste 54 = .ok (.getfield 36, 3) := by decide +kernel
theorem dX11_paste_57 : decode cX11_paste 57 = .ok (.iload_n 3, 1) := by decide +kernel
theorem dX11_paste_58 : decode cX11_paste 58 = .ok (.aaload, 1) := by decide +kernel
theorem dX11_paste_59 : decode cX11_paste 59 = .ok (.getfield 368, 3) := by decide +kernel
theorem dX11_paste_62 : decode cX11_paste 62 = .ok (.if_icmp .eq 6, 3) := by decide +kernel
theorem dX11_paste_68 : decode cX11_paste 68 = .ok (.aload_n 0, 1) := by decide +kernel
theorem dX11_paste_69 : decode cX11_paste 69 = .ok (.getfield 36, 3) := by decide +kernel
theorem dX11_paste_72 : decode cX11_paste 72 = .ok (.iload_n 1, 1) := by decide +kernel
theorem dX11_paste_73 : decode cX11_paste 73 = .ok (.aaload, 1) := by decide +kernel
theorem dX11_paste_74 : decode cX11_paste 74 = .ok (.iload_n 2, 1) := by decide +kernel
theorem dX11_paste_75 : decode cX11_paste 75 = .ok (.iload 5, 2) := by decide +kernel
theorem dX11_paste_77 : decode cX11_paste 77 = .ok (.invokevirtual 360, 3) := by decide +kernel
theorem dX11_paste_80 : decode cX11_paste 80 = .ok (.ifCond .eq 19, 3) := by decide +kernel
theorem dX11_paste_99 : decode cX11_paste 99 = .ok (.bipush (-7), 2) := by decide +kernel
theorem dX11_paste_101 : decode cX11_paste 101 = .ok (.ireturn, 1) := by decide +kernel
theorem dX11_paste_83 : decode cX11_paste 83 = .ok (.aload_n 0, 1) := by decide +kernel
theorem dX11_paste_84 : decode cX11_paste 84 = .ok (.getfield 36, 3) := by decide +kernel
theorem dX11_paste_87 : decode cX11_paste 87 = .ok (.iload_n 3, 1) := by decide +kernel
theorem dX11_paste_88 : decode cX11_paste 88 = .ok (.aaload, 1) := by decide +kernel
theorem dX11_paste_89 : decode cX11_paste 89 = .ok (.iload 4, 2) := by decide +kernel
theorem dX11_paste_91 : decode cX11_paste 91 = .ok (.iload 5, 2) := by decide +kernel
theorem dX11_paste_93 : decode cX11_paste 93 = .ok (.invokevirtual 360, 3) := by decide +kernel
theorem dX11_paste_96 : decode cX11_paste 96 = .ok (.ifCond .ne 6, 3) := by decide +kernel
theorem dX11_paste_102 : decode cX11_paste 102 = .ok (.aload_n 0, 1) := by decide +kernel
theorem dX11_paste_103 : decode cX11_paste 103 = .ok (.getfield 36, 3) := by decide +kernel
theorem dX11_paste_106 : decode cX11_paste 106 = .ok (.iload_n 1, 1) := by decide +kernel
theorem dX11_paste_107 : decode cX11_paste 107 = .ok (.aaload, 1) := by decide +kernel
theorem dX11_paste_108 : decode cX11_paste 108 = .ok (.getfield 371, 3) := by decide +kernel
theorem dX11_paste_111 : decode cX11_paste 111 = .ok (.iload_n 2, 1) := by decide +kernel
theorem dX11_paste_112 : decode cX11_paste 112 = .ok (.aload_n 0, 1) := by decide +kernel
theorem dX11_paste_113 : decode cX11_paste 113 = .ok (.getfield 36, 3) := by decide +kernel
theorem dX11_paste_116 : decode cX11_paste 116 = .ok (.iload_n 3, 1) := by decide +kernel
theorem dX11_paste_117 : decode cX11_paste 117 = .ok (.aaload, 1) := by decide +kernel
theorem dX11_paste_118 : decode cX11_paste 118 = .ok (.getfield 371, 3) := by decide +kernel
theorem dX11_paste_121 : decode cX11_paste 121 = .ok (.iload 4, 2) := by decide +kernel
theorem dX11_paste_123 : decode cX11_paste 123 = .ok (.iload 5, 2) := by decide +kernel
theorem dX11_paste_125 : decode cX11_paste 125 = .ok (.invokestatic 136, 3) := by decide +kernel
theorem dX11_paste_128 : decode cX11_paste 128 = .ok (.iconst 0, 1) := by decide +kernel
theorem dX11_paste_129 : decode cX11_paste 129 = .ok (.ireturn, 1) := by decide +kernel
theorem dX11_paste_65 : decode cX11_paste 65 = .ok (.bipush (-8), 2) := by decide +kernel
theorem dX11_paste_67 : decode cX11_paste 67 = .ok (.ireturn, 1) := by decide +kernel
theorem dX11_lay_0 : decode cX11_lay 0 = .ok (.iload_n 1, 1) := by decide +kernel
theorem dX11_lay_1 : decode cX11_lay 1 = .ok (.invokestatic 353, 3) := by decide +kernel
theorem dX11_lay_4 : decode cX11_lay 4 = .ok (.ifCond .eq 10, 3) := by decide +kernel
theorem dX11_lay_14 : decode cX11_lay 14 = .ok (.bipush (-2), 2) := by decide +kernel
theorem dX11_lay_16 : decode cX11_lay 16 = .ok (.ireturn, 1) := by decide +kernel
theorem dX11_lay_7 : decode cX11_lay 7 = .ok (.iload_n 2, 1) := by decide +kernel
theorem dX11_lay_8 : decode cX11_lay 8 = .ok (.invokestatic 181, 3) := by decide +kernel
theorem dX11_lay_11 : decode cX11_lay 11 = .ok (.ifCond .ne 6, 3) := by decide +kernel
theorem dX11_lay_17 : decode cX11_lay 17 = .ok (.aload_n 0, 1) := by decide +kernel
theorem dX11_lay_18 : decode cX11_lay 18 = .ok (.getfield 36, 3) := by decide +kernel
theorem dX11_lay_21 : decode cX11_lay 21 = .ok (.iload_n 1, 1) := by decide +kernel
theorem dX11_lay_22 : decode cX11_lay 22 = .ok (.aaload, 1) := by decide +kernel
theorem dX11_lay_23 : decode cX11_lay 23 = .ok (.invokevirtual 359, 3) := by decide +kernel
theorem dX11_lay_26 : decode cX11_lay 26 = .ok (.ifCond .eq 11, 3) := by decide +kernel
theorem dX11_lay_37 : decode cX11_lay 37 = .ok (.bipush (-6), 2) := by decide +kernel
theorem dX11_lay_39 : decode cX11_lay 39 = .ok (.ireturn, 1) := by decide +kernel
theorem dX11_lay_29 : decode cX11_lay 29 = .ok (.aload_n 0, 1) := by decide +kernel
theorem dX11_lay_30 : decode cX11_lay 30 = .ok (.iload_n 2, 1) := by decide +kernel
theorem dX11_lay_31 : decode cX11_lay 31 = .ok (.invokevirtual 239, 3) := by decide +kernel
theorem dX11_lay_34 : decode cX11_lay 34 = .ok (.ifCond .ne 6, 3) := by decide +kernel
theorem dX11_lay_40 : decode cX11_lay 40 = .ok (.iconst 0, 1) := by decide +kernel
theorem dX11_lay_41 : decode cX11_lay 41 = .ok (.istore_n 3, 1) := by decide +kernel
theorem dX11_lay_42 : decode cX11_lay 42 = .ok (.aload_n 0, 1) := by decide +kernel
theorem dX11_lay_43 : decode cX11_lay 43 = .ok (.getfield 36, 3) := by decide +kernel
theorem dX11_lay_46 : decode cX11_lay 46 = .ok (.iload_n 1, 1) := by decide +kernel
theorem dX11_lay_47 : decode cX11_lay 47 = .ok (.aaload, 1) := by decide +kernel
theorem dX11_lay_48 : decode cX11_lay 48 = .ok (.getfield 375, 3) := by decide +kernel
theorem dX11_lay_51 : decode cX11_lay 51 = .ok (.aload_n 0, 1) := by decide +kernel
theorem dX11_lay_52 : decode cX11_lay 52 = .ok (.getfield 19, 3) := by decide +kernel
theorem dX11_lay_55 : decode cX11_lay 55 = .ok (.getfield 116, 3) := by decide +kernel
theorem dX11_lay_58 : decode cX11_lay 58 = .ok (.getfield 126, 3) := by decide +kernel
theorem dX11_lay_61 : decode cX11_lay 61 = .ok (.invokestatic 376, 3) := by decide +kernel
theorem dX11_lay_64 : decode cX11_lay 64 = .ok (.istore 4, 2) := by decide +kernel
theorem dX11_lay_66 : decode cX11_lay 66 = .ok (.iconst 0, 1) := by decide +kernel
theorem dX11_lay_67 : decode cX11_lay 67 = .ok (.istore 5, 2) := by decide +kernel
theorem dX11_lay_69 : decode cX11_lay 69 = .ok (.iload 5, 2) := by decide +kernel
theorem dX11_lay_71 : decode cX11_lay 71 = .ok (.iload 4, 2) := by decide +kernel
theorem dX11_lay_73 : decode cX11_lay 73 = .ok (.if_icmp .ge 93, 3) := by decide +kernel
theorem dX11_lay_166 : decode cX11_lay 166 = .ok (.iload_n 3, 1) := by decide +kernel
theorem dX11_lay_167 : decode cX11_lay 167 = .ok (.ireturn, 1) := by decide +kernel
theorem dX11_lay_76 : decode cX11_lay 76 = .ok (.aload_n 0, 1) := by decide +kernel
theorem dX11_lay_77 : decode cX11_lay 77 = .ok (.getfield 19, 3) := by decide +kernel
theorem dX11_lay_80 : decode cX11_lay 80 = .ok (.getfield 116, 3) := by decide +kernel
theorem dX11_lay_83 : decode cX11_lay 83 = .ok (.iload 5, 2) := by decide +kernel
theorem dX11_lay_85 : decode cX11_lay 85 = .ok (.invokevirtual 301, 3) := by decide +kernel
theorem dX11_lay_88 : decode cX11_lay 88 = .ok (.istore 6, 2) := by decide +kernel
theorem dX11_lay_90 : decode cX11_lay 90 = .ok (.aload_n 0, 1) := by decide +kernel
theorem dX11_lay_91 : decode cX11_lay 91 = .ok (.getfield 36, 3) := by decide +kernel
theorem dX11_lay_94 : decode cX11_lay 94 = .ok (.iload_n 1, 1) := by decide +kernel
theorem dX11_lay_95 : decode cX11_lay 95 = .ok (.aaload, 1) := by decide +kernel
theorem dX11_lay_96 : decode cX11_lay 96 = .ok (.iload 5, 2) := by decide +kernel
theorem dX11_lay_98 : decode cX11_lay 98 = .ok (.invokevirtual 379, 3) := by decide +kernel
theorem dX11_lay_120 : decode cX11_lay 120 = .ok (.istore 7, 2) := by decide +kernel
theorem dX11_lay_122 : decode cX11_lay 122 = .ok (.aload_n 0, 1) := by decide +kernel
theorem dX11_lay_123 : decode cX11_lay 123 = .ok (.getfield 19, 3) := by decide +kernel
theorem dX11_lay_126 : decode cX11_lay 126 = .ok (.getfield 190, 3) := by decide +kernel
theorem dX11_lay_129 : decode cX11_lay 129 = .ok (.iload_n 2, 1) := by decide +kernel
theorem dX11_lay_130 : decode cX11_lay 130 = .ok (.aaload, 1) := by decide +kernel
theorem dX11_lay_131 : decode cX11_lay 131 = .ok (.iload 6, 2) := by decide +kernel
theorem dX11_lay_133 : decode cX11_lay 133 = .ok (.invokevirtual 242, 3) := by decide +kernel
theorem dX11_lay_136 : decode cX11_lay 136 = .ok (.iload 7, 2) := by decide +kernel
theorem dX11_lay_138 : decode cX11_lay 138 = .ok (.if_icmp .eq 22, 3) := by decide +kernel
theorem dX11_lay_160 : decode cX11_lay 160 = .ok (.iinc 5 1, 3) := by decide +kernel
theorem dX11_lay_163 : decode cX11_lay 163 = .ok (.goto (-94), 3) := by decide +kernel
theorem dX11_lay_141 : decode cX11_lay 141 = .ok (.aload_n 0, 1) := by decide +kernel
theorem dX11_lay_142 : decode cX11_lay 142 = .ok (.getfield 19, 3) := by decide +kernel
theorem dX11_lay_145 : decode cX11_lay 145 = .ok (.getfield 190, 3) := by decide +kernel
theorem dX11_lay_148 : decode cX11_lay 148 = .ok (.iload_n 2, 1) := by decide +kernel
theorem dX11_lay_149 : decode cX11_lay 149 = .ok (.aaload, 1) := by decide +kernel
theorem dX11_lay_150 : decode cX11_lay 150 = .ok (.iload 6, 2) := by decide +kernel
theorem dX11_lay_152 : decode cX11_lay 152 = .ok (.iload 7, 2) := by decide +kernel
theorem dX11_lay_154 : decode cX11_lay 154 = .ok (.invokevirtual 324, 3) := by decide +kernel
theorem dX11_lay_157 : decode cX11_lay 157 = .ok (.iinc 3 1, 3) := by decide +kernel
theorem dX11_lay_101 : decode cX11_lay 101 = .ok (.ifCond .eq 7, 3) := by decide +kernel
theorem dX11_lay_108 : decode cX11_lay 108 = .ok (.aload_n 0, 1) := by decide +kernel
theorem dX11_lay_109 : decode cX11_lay 109 = .ok (.getfield 19, 3) := by decide +kernel
theorem dX11_lay_112 : decode cX11_lay 112 = .ok (.getfield 116, 3) := by decide +kernel
theorem dX11_lay_115 : decode cX11_lay 115 = .ok (.iload 6, 2) := by decide +kernel
theorem dX11_lay_117 : decode cX11_lay 117 = .ok (.invokevirtual 382, 3) := by decide +kernel
theorem dX11_lay_104 : decode cX11_lay 104 = .ok (.iconst 0, 1) := by decide +kernel
theorem dX11_lay_105 : decode cX11_lay 105 = .ok (.goto 15, 3) := by decide +kernel
