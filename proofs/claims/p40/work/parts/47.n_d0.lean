theorem dX12_knit_0 : decode cX12_knit 0 = .ok (.iload_n 1, 1) := by decide +kernel
theorem dX12_knit_1 : decode cX12_knit 1 = .ok (.invokestatic 319, 3) := by decide +kernel
theorem dX12_knit_4 : decode cX12_knit 4 = .ok (.ifCond .eq 10, 3) := by decide +kernel
theorem dX12_knit_14 : decode cX12_knit 14 = .ok (.bipush (-2), 2) := by decide +kernel
theorem dX12_knit_16 : decode cX12_knit 16 = .ok (.ireturn, 1) := by decide +kernel
theorem dX12_knit_7 : decode cX12_knit 7 = .ok (.iload_n 2, 1) := by decide +kernel
theorem dX12_knit_8 : decode cX12_knit 8 = .ok (.invokestatic 322, 3) := by decide +kernel
theorem dX12_knit_11 : decode cX12_knit 11 = .ok (.ifCond .ne 6, 3) := by decide +kernel
theorem dX12_knit_17 : decode cX12_knit 17 = .ok (.aload_n 0, 1) := by decide +kernel
theorem dX12_knit_18 : decode cX12_knit 18 = .ok (.invokevirtual 325, 3) := by decide +kernel
theorem dX12_knit_21 : decode cX12_knit 21 = .ok (.ifCond .ne 6, 3) := by decide +kernel
theorem dX12_knit_27 : decode cX12_knit 27 = .ok (.aload_n 0, 1) := by decide +kernel
theorem dX12_knit_28 : decode cX12_knit 28 = .ok (.iload_n 2, 1) := by decide +kernel
theorem dX12_knit_29 : decode cX12_knit 29 = .ok (.i2l, 1) := by decide +kernel
theorem dX12_knit_30 : decode cX12_knit 30 = .ok (.invokevirtual 328, 3) := by decide +kernel
theorem dX12_knit_33 : decode cX12_knit 33 = .ok (.istore_n 3, 1) := by decide +kernel
theorem dX12_knit_34 : decode cX12_knit 34 = .ok (.aload_n 0, 1) := by decide +kernel
theorem dX12_knit_35 : decode cX12_knit 35 = .ok (.iload_n 1, 1) := by decide +kernel
theorem dX12_knit_36 : decode cX12_knit 36 = .ok (.invokevirtual 332, 3) := by decide +kernel
theorem dX12_knit_39 : decode cX12_knit 39 = .ok (.iload_n 3, 1) := by decide +kernel
theorem dX12_knit_40 : decode cX12_knit 40 = .ok (.ireturn, 1) := by decide +kernel
theorem dX12_knit_24 : decode cX12_knit 24 = .ok (.bipush (-6), 2) := by decide +kernel
theorem dX12_knit_26 : decode cX12_knit 26 = .ok (.ireturn, 1) := by decide +kernel
