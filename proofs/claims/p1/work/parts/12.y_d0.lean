theorem dJ7_fill_d0a16_0 : decode cJ7_fill_d0a16 0 = .ok (.iconst 0, 1) := by decide +kernel
theorem dJ7_fill_d0a16_1 : decode cJ7_fill_d0a16 1 = .ok (.istore_n 3, 1) := by decide +kernel
theorem dJ7_fill_d0a16_2 : decode cJ7_fill_d0a16 2 = .ok (.aload_n 0, 1) := by decide +kernel
theorem dJ7_fill_d0a16_3 : decode cJ7_fill_d0a16 3 = .ok (.arraylength, 1) := by decide +kernel
theorem dJ7_fill_d0a16_4 : decode cJ7_fill_d0a16 4 = .ok (.istore 4, 2) := by decide +kernel
theorem dJ7_fill_d0a16_6 : decode cJ7_fill_d0a16 6 = .ok (.iload_n 3, 1) := by decide +kernel
theorem dJ7_fill_d0a16_7 : decode cJ7_fill_d0a16 7 = .ok (.iload 4, 2) := by decide +kernel
theorem dJ7_fill_d0a16_9 : decode cJ7_fill_d0a16 9 = .ok (.if_icmp .ge 13, 3) := by decide +kernel
theorem dJ7_fill_d0a16_22 : decode cJ7_fill_d0a16 22 = .ok (.return_, 1) := by decide +kernel
theorem dJ7_fill_d0a16_12 : decode cJ7_fill_d0a16 12 = .ok (.aload_n 0, 1) := by decide +kernel
theorem dJ7_fill_d0a16_13 : decode cJ7_fill_d0a16 13 = .ok (.iload_n 3, 1) := by decide +kernel
theorem dJ7_fill_d0a16_14 : decode cJ7_fill_d0a16 14 = .ok (.lload_n 1, 1) := by decide +kernel
theorem dJ7_fill_d0a16_15 : decode cJ7_fill_d0a16 15 = .ok (.lastore, 1) := by decide +kernel
theorem dJ7_fill_d0a16_16 : decode cJ7_fill_d0a16 16 = .ok (.iinc 3 1, 3) := by decide +kernel
theorem dJ7_fill_d0a16_19 : decode cJ7_fill_d0a16 19 = .ok (.goto (-13), 3) := by decide +kernel
theorem dX5_begin_0 : decode cX5_begin 0 = .ok (.aload_n 0, 1) := by decide +kernel
theorem dX5_begin_1 : decode cX5_begin 1 = .ok (.iload_n 1, 1) := by decide +kernel
theorem dX5_begin_2 : decode cX5_begin 2 = .ok (.putfield 15, 3) := by decide +kernel
theorem dX5_begin_5 : decode cX5_begin 5 = .ok (.aload_n 0, 1) := by decide +kernel
theorem dX5_begin_6 : decode cX5_begin 6 = .ok (.iload_n 2, 1) := by decide +kernel
theorem dX5_begin_7 : decode cX5_begin 7 = .ok (.putfield 19, 3) := by decide +kernel
theorem dX5_begin_10 : decode cX5_begin 10 = .ok (.aload_n 0, 1) := by decide +kernel
theorem dX5_begin_11 : decode cX5_begin 11 = .ok (.getfield 9, 3) := by decide +kernel
theorem dX5_begin_14 : decode cX5_begin 14 = .ok (.lconst 0, 1) := by decide +kernel
theorem dX5_begin_15 : decode cX5_begin 15 = .ok (.invokestatic 22, 3) := by decide +kernel
theorem dX5_begin_18 : decode cX5_begin 18 = .ok (.return_, 1) := by decide +kernel
theorem dX11_row_0 : decode cX11_row 0 = .ok (.iload_n 1, 1) := by decide +kernel
theorem dX11_row_1 : decode cX11_row 1 = .ok (.invokestatic 353, 3) := by decide +kernel
theorem dX11_row_4 : decode cX11_row 4 = .ok (.ifCond .eq 18, 3) := by decide +kernel
theorem dX11_row_22 : decode cX11_row 22 = .ok (.bipush (-2), 2) := by decide +kernel
theorem dX11_row_24 : decode cX11_row 24 = .ok (.ireturn, 1) := by decide +kernel
theorem dX11_row_7 : decode cX11_row 7 = .ok (.iload_n 2, 1) := by decide +kernel
theorem dX11_row_8 : decode cX11_row 8 = .ok (.ifCond .lt 14, 3) := by decide +kernel
theorem dX11_row_11 : decode cX11_row 11 = .ok (.iload_n 2, 1) := by decide +kernel
theorem dX11_row_12 : decode cX11_row 12 = .ok (.iconst 4, 1) := by decide +kernel
theorem dX11_row_13 : decode cX11_row 13 = .ok (.if_icmp .ge 9, 3) := by decide +kernel
theorem dX11_row_16 : decode cX11_row 16 = .ok (.iload_n 3, 1) := by decide +kernel
theorem dX11_row_17 : decode cX11_row 17 = .ok (.bipush 60, 2) := by decide +kernel
theorem dX11_row_19 : decode cX11_row 19 = .ok (.if_icmp .le 6, 3) := by decide +kernel
theorem dX11_row_25 : decode cX11_row 25 = .ok (.iload_n 3, 1) := by decide +kernel
theorem dX11_row_26 : decode cX11_row 26 = .ok (.ifCond .ge 6, 3) := by decide +kernel
theorem dX11_row_32 : decode cX11_row 32 = .ok (.aload_n 0, 1) := by decide +kernel
theorem dX11_row_33 : decode cX11_row 33 = .ok (.getfield 36, 3) := by decide +kernel
theorem dX11_row_36 : decode cX11_row 36 = .ok (.iload_n 1, 1) := by decide +kernel
theorem dX11_row_37 : decode cX11_row 37 = .ok (.aaload, 1) := by decide +kernel
theorem dX11_row_38 : decode cX11_row 38 = .ok (.iload_n 2, 1) := by decide +kernel
theorem dX11_row_39 : decode cX11_row 39 = .ok (.iload_n 3, 1) := by decide +kernel
theorem dX11_row_40 : decode cX11_row 40 = .ok (.invokevirtual 356, 3) := by decide +kernel
theorem dX11_row_43 : decode cX11_row 43 = .ok (.iconst 0, 1) := by decide +kernel
theorem dX11_row_44 : decode cX11_row 44 = .ok (.ireturn, 1) := by decide +kernel
theorem dX11_row_29 : decode cX11_row 29 = .ok (.bipush (-3), 2) := by decide +kernel
theorem dX11_row_31 : decode cX11_row 31 = .ok (.ireturn, 1) := by decide +kernel
