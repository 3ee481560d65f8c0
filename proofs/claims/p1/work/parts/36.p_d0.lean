theorem dX4_takeFrom_0 : decode cX4_takeFrom 0 = .ok (.aload_n 1, 1) := by decide +kernel
theorem dX4_takeFrom_1 : decode cX4_takeFrom 1 = .ok (.getfield 9, 3) := by decide +kernel
theorem dX4_takeFrom_4 : decode cX4_takeFrom 4 = .ok (.iconst 0, 1) := by decide +kernel
theorem dX4_takeFrom_5 : decode cX4_takeFrom 5 = .ok (.aload_n 0, 1) := by decide +kernel
theorem dX4_takeFrom_6 : decode cX4_takeFrom 6 = .ok (.getfield 9, 3) := by decide +kernel
theorem dX4_takeFrom_9 : decode cX4_takeFrom 9 = .ok (.iconst 0, 1) := by decide +kernel
theorem dX4_takeFrom_10 : decode cX4_takeFrom 10 = .ok (.sipush 256, 3) := by decide +kernel
theorem dX4_takeFrom_13 : decode cX4_takeFrom 13 = .ok (.invokestatic 45, 3) := by decide +kernel
theorem dX4_takeFrom_16 : decode cX4_takeFrom 16 = .ok (.aload_n 1, 1) := by decide +kernel
theorem dX4_takeFrom_17 : decode cX4_takeFrom 17 = .ok (.getfield 15, 3) := by decide +kernel
theorem dX4_takeFrom_20 : decode cX4_takeFrom 20 = .ok (.iconst 0, 1) := by decide +kernel
theorem dX4_takeFrom_21 : decode cX4_takeFrom 21 = .ok (.aload_n 0, 1) := by decide +kernel
theorem dX4_takeFrom_22 : decode cX4_takeFrom 22 = .ok (.getfield 15, 3) := by decide +kernel
theorem dX4_takeFrom_25 : decode cX4_takeFrom 25 = .ok (.iconst 0, 1) := by decide +kernel
theorem dX4_takeFrom_26 : decode cX4_takeFrom 26 = .ok (.sipush 256, 3) := by decide +kernel
theorem dX4_takeFrom_29 : decode cX4_takeFrom 29 = .ok (.invokestatic 45, 3) := by decide +kernel
theorem dX4_takeFrom_32 : decode cX4_takeFrom 32 = .ok (.aload_n 0, 1) := by decide +kernel
theorem dX4_takeFrom_33 : decode cX4_takeFrom 33 = .ok (.aload_n 1, 1) := by decide +kernel
theorem dX4_takeFrom_34 : decode cX4_takeFrom 34 = .ok (.getfield 22, 3) := by decide +kernel
theorem dX4_takeFrom_37 : decode cX4_takeFrom 37 = .ok (.putfield 22, 3) := by decide +kernel
theorem dX4_takeFrom_40 : decode cX4_takeFrom 40 = .ok (.aload_n 0, 1) := by decide +kernel
theorem dX4_takeFrom_41 : decode cX4_takeFrom 41 = .ok (.aload_n 1, 1) := by decide +kernel
theorem dX4_takeFrom_42 : decode cX4_takeFrom 42 = .ok (.getfield 18, 3) := by decide +kernel
theorem dX4_takeFrom_45 : decode cX4_takeFrom 45 = .ok (.putfield 18, 3) := by decide +kernel
theorem dX4_takeFrom_48 : decode cX4_takeFrom 48 = .ok (.aload_n 0, 1) := by decide +kernel
theorem dX4_takeFrom_49 : decode cX4_takeFrom 49 = .ok (.aload_n 1, 1) := by decide +kernel
theorem dX4_takeFrom_50 : decode cX4_takeFrom 50 = .ok (.getfield 25, 3) := by decide +kernel
theorem dX4_takeFrom_53 : decode cX4_takeFrom 53 = .ok (.putfield 25, 3) := by decide +kernel
theorem dX4_takeFrom_56 : decode cX4_takeFrom 56 = .ok (.return_, 1) := by decide +kernel
theorem dX10_takeFrom_0 : decode cX10_takeFrom 0 = .ok (.aload_n 0, 1) := by decide +kernel
theorem dX10_takeFrom_1 : decode cX10_takeFrom 1 = .ok (.aload_n 1, 1) := by decide +kernel
theorem dX10_takeFrom_2 : decode cX10_takeFrom 2 = .ok (.getfield 21, 3) := by decide +kernel
theorem dX10_takeFrom_5 : decode cX10_takeFrom 5 = .ok (.putfield 21, 3) := by decide +kernel
theorem dX10_takeFrom_8 : decode cX10_takeFrom 8 = .ok (.aload_n 0, 1) := by decide +kernel
theorem dX10_takeFrom_9 : decode cX10_takeFrom 9 = .ok (.aload_n 1, 1) := by decide +kernel
theorem dX10_takeFrom_10 : decode cX10_takeFrom 10 = .ok (.getfield 25, 3) := by decide +kernel
theorem dX10_takeFrom_13 : decode cX10_takeFrom 13 = .ok (.putfield 25, 3) := by decide +kernel
theorem dX10_takeFrom_16 : decode cX10_takeFrom 16 = .ok (.aload_n 0, 1) := by decide +kernel
theorem dX10_takeFrom_17 : decode cX10_takeFrom 17 = .ok (.aload_n 1, 1) := by decide +kernel
theorem dX10_takeFrom_18 : decode cX10_takeFrom 18 = .ok (.getfield 9, 3) := by decide +kernel
theorem dX10_takeFrom_21 : decode cX10_takeFrom 21 = .ok (.putfield 9, 3) := by decide +kernel
theorem dX10_takeFrom_24 : decode cX10_takeFrom 24 = .ok (.aload_n 0, 1) := by decide +kernel
theorem dX10_takeFrom_25 : decode cX10_takeFrom 25 = .ok (.aload_n 1, 1) := by decide +kernel
theorem dX10_takeFrom_26 : decode cX10_takeFrom 26 = .ok (.getfield 15, 3) := by decide +kernel
theorem dX10_takeFrom_29 : decode cX10_takeFrom 29 = .ok (.putfield 15, 3) := by decide +kernel
theorem dX10_takeFrom_32 : decode cX10_takeFrom 32 = .ok (.aload_n 0, 1) := by decide +kernel
theorem dX10_takeFrom_33 : decode cX10_takeFrom 33 = .ok (.aload_n 1, 1) := by decide +kernel
theorem dX10_takeFrom_34 : decode cX10_takeFrom 34 = .ok (.getfield 18, 3) := by decide +kernel
theorem dX10_takeFrom_37 : decode cX10_takeFrom 37 = .ok (.putfield 18, 3) := by decide +kernel
theorem dX10_takeFrom_40 : decode cX10_takeFrom 40 = .ok (.aload_n 0, 1) := by decide +kernel
theorem dX10_takeFrom_41 : decode cX10_takeFrom 41 = .ok (.aload_n 1, 1) := by decide +kernel
theorem dX10_takeFrom_42 : decode cX10_takeFrom 42 = .ok (.getfield 28, 3) := by decide +kernel
theorem dX10_takeFrom_45 : decode cX10_takeFrom 45 = .ok (.putfield 28, 3) := by decide +kernel
theorem dX10_takeFrom_48 : decode cX10_takeFrom 48 = .ok (.aload_n 0, 1) := by decide +kernel
theorem dX10_takeFrom_49 : decode cX10_takeFrom 49 = .ok (.aload_n 1, 1) := by decide +kernel
theorem dX10_takeFrom_50 : decode cX10_takeFrom 50 = .ok (.getfield 31, 3) := by decide +kernel
theorem dX10_takeFrom_53 : decode cX10_takeFrom 53 = .ok (.putfield 31, 3) := by decide +kernel
theorem dX10_takeFrom_56 : decode cX10_takeFrom 56 = .ok (.return_, 1) := by decide +kernel
theorem dX1_takeFrom_0 : decode cX1_takeFrom 0 = .ok (.aload_n 1, 1) := by decide +kernel
theorem dX1_takeFrom_1 : decode cX1_takeFrom 1 = .ok (.getfield 9, 3) := by decide +kernel
theorem dX1_takeFrom_4 : decode cX1_takeFrom 4 = .ok (.iconst 0, 1) := by decide +kernel
theorem dX1_takeFrom_5 : decode cX1_takeFrom 5 = .ok (.aload_n 0, 1) := by decide +kernel
theorem dX1_takeFrom_6 : decode cX1_takeFrom 6 = .ok (.getfield 9, 3) := by decide +kernel
theorem dX1_takeFrom_9 : decode cX1_takeFrom 9 = .ok (.iconst 0, 1) := by decide +kernel
theorem dX1_takeFrom_10 : decode cX1_takeFrom 10 = .ok (.sipush 256, 3) := by decide +kernel
theorem dX1_takeFrom_13 : decode cX1_takeFrom 13 = .ok (.invokestatic 15, 3) := by decide +kernel
theorem dX1_takeFrom_16 : decode cX1_takeFrom 16 = .ok (.aload_n 0, 1) := by decide +kernel
theorem dX1_takeFrom_17 : decode cX1_takeFrom 17 = .ok (.aload_n 1, 1) := by decide +kernel
theorem dX1_takeFrom_18 : decode cX1_takeFrom 18 = .ok (.getfield 21, 3) := by decide +kernel
theorem dX1_takeFrom_21 : decode cX1_takeFrom 21 = .ok (.putfield 21, 3) := by decide +kernel
theorem dX1_takeFrom_24 : decode cX1_takeFrom 24 = .ok (.return_, 1) := by decide +kernel
theorem dX0_takeFrom_0 : decode cX0_takeFrom 0 = .ok (.aload_n 0, 1) := by decide +kernel
theorem dX0_takeFrom_1 : decode cX0_takeFrom 1 = .ok (.getfield 12, 3) := by decide +kernel
theorem dX0_takeFrom_4 : decode cX0_takeFrom 4 = .ok (.aload_n 1, 1) := by decide +kernel
theorem dX0_takeFrom_5 : decode cX0_takeFrom 5 = .ok (.getfield 12, 3) := by decide +kernel
theorem dX0_takeFrom_8 : decode cX0_takeFrom 8 = .ok (.invokevirtual 50, 3) := by decide +kernel
theorem dX0_takeFrom_11 : decode cX0_takeFrom 11 = .ok (.aload_n 1, 1) := by decide +kernel
theorem dX0_takeFrom_12 : decode cX0_takeFrom 12 = .ok (.getfield 18, 3) := by decide +kernel
theorem dX0_takeFrom_15 : decode cX0_takeFrom 15 = .ok (.iconst 0, 1) := by decide +kernel
theorem dX0_takeFrom_16 : decode cX0_takeFrom 16 = .ok (.aload_n 0, 1) := by decide +kernel
theorem dX0_takeFrom_17 : decode cX0_takeFrom 17 = .ok (.getfield 18, 3) := by decide +kernel
theorem dX0_takeFrom_20 : decode cX0_takeFrom 20 = .ok (.iconst 0, 1) := by decide +kernel
theorem dX0_takeFrom_21 : decode cX0_takeFrom 21 = .ok (.iconst 3, 1) := by decide +kernel
theorem dX0_takeFrom_22 : decode cX0_takeFrom 22 = .ok (.invokestatic 54, 3) := by decide +kernel
theorem dX0_takeFrom_25 : decode cX0_takeFrom 25 = .ok (.iconst 0, 1) := by decide +kernel
theorem dX0_takeFrom_26 : decode cX0_takeFrom 26 = .ok (.istore_n 2, 1) := by decide +kernel
theorem dX0_takeFrom_27 : decode cX0_takeFrom 27 = .ok (.iload_n 2, 1) := by decide +kernel
theorem dX0_takeFrom_28 : decode cX0_takeFrom 28 = .ok (.bipush 6, 2) := by decide +kernel
theorem dX0_takeFrom_30 : decode cX0_takeFrom 30 = .ok (.if_icmp .ge 24, 3) := by decide +kernel
theorem dX0_takeFrom_33 : decode cX0_takeFrom 33 = .ok (.aload_n 0, 1) := by decide +kernel
theorem dX0_takeFrom_34 : decode cX0_takeFrom 34 = .ok (.getfield 24, 3) := by decide +kernel
theorem dX0_takeFrom_37 : decode cX0_takeFrom 37 = .ok (.iload_n 2, 1) := by decide +kernel
theorem dX0_takeFrom_38 : decode cX0_takeFrom 38 = .ok (.aaload, 1) := by decide +kernel
theorem dX0_takeFrom_39 : decode cX0_takeFrom 39 = .ok (.aload_n 1, 1) := by decide +kernel
theorem dX0_takeFrom_40 : decode cX0_takeFrom 40 = .ok (.getfield 24, 3) := by decide +kernel
theorem dX0_takeFrom_43 : decode cX0_takeFrom 43 = .ok (.iload_n 2, 1) := by decide +kernel
theorem dX0_takeFrom_44 : decode cX0_takeFrom 44 = .ok (.aaload, 1) := by decide +kernel
theorem dX0_takeFrom_45 : decode cX0_takeFrom 45 = .ok (.invokevirtual 60, 3) := by decide +kernel
theorem dX0_takeFrom_48 : decode cX0_takeFrom 48 = .ok (.iinc 2 1, 3) := by decide +kernel
theorem dX0_takeFrom_51 : decode cX0_takeFrom 51 = .ok (.goto (-24), 3) := by decide +kernel
theorem dX0_takeFrom_54 : decode cX0_takeFrom 54 = .ok (.aload_n 0, 1) := by decide +kernel
theorem dX0_takeFrom_55 : decode cX0_takeFrom 55 = .ok (.getfield 31, 3) := by decide +kernel
theorem dX0_takeFrom_58 : decode cX0_takeFrom 58 = .ok (.aload_n 1, 1) := by decide +kernel
theorem dX0_takeFrom_59 : decode cX0_takeFrom 59 = .ok (.getfield 31, 3) := by decide +kernel
theorem dX0_takeFrom_62 : decode cX0_takeFrom 62 = .ok (.invokevirtual 63, 3) := by decide +kernel
theorem dX0_takeFrom_65 : decode cX0_takeFrom 65 = .ok (.aload_n 0, 1) := by decide +kernel
theorem dX0_takeFrom_66 : decode cX0_takeFrom 66 = .ok (.getfield 38, 3) := by decide +kernel
theorem dX0_takeFrom_69 : decode cX0_takeFrom 69 = .ok (.aload_n 1, 1) := by decide +kernel
theorem dX0_takeFrom_70 : decode cX0_takeFrom 70 = .ok (.getfield 38, 3) := by decide +kernel
theorem dX0_takeFrom_73 : decode cX0_takeFrom 73 = .ok (.invokevirtual 66, 3) := by decide +kernel
theorem dX0_takeFrom_76 : decode cX0_takeFrom 76 = .ok (.iconst 0, 1) := by decide +kernel
theorem dX0_takeFrom_77 : decode cX0_takeFrom 77 = .ok (.istore_n 2, 1) := by decide +kernel
theorem dX0_takeFrom_78 : decode cX0_takeFrom 78 = .ok (.iload_n 2, 1) := by decide +kernel
theorem dX0_takeFrom_79 : decode cX0_takeFrom 79 = .ok (.iconst 4, 1) := by decide +kernel
theorem dX0_takeFrom_80 : decode cX0_takeFrom 80 = .ok (.if_icmp .ge 24, 3) := by decide +kernel
theorem dX0_takeFrom_83 : decode cX0_takeFrom 83 = .ok (.aload_n 0, 1) := by decide +kernel
theorem dX0_takeFrom_84 : decode cX0_takeFrom 84 = .ok (.getfield 44, 3) := by decide +kernel
theorem dX0_takeFrom_87 : decode cX0_takeFrom 87 = .ok (.iload_n 2, 1) := by decide +kernel
theorem dX0_takeFrom_88 : decode cX0_takeFrom 88 = .ok (.aaload, 1) := by decide +kernel
theorem dX0_takeFrom_89 : decode cX0_takeFrom 89 = .ok (.aload_n 1, 1) := by decide +kernel
theorem dX0_takeFrom_90 : decode cX0_takeFrom 90 = .ok (.getfield 44, 3) := by decide +kernel
theorem dX0_takeFrom_93 : decode cX0_takeFrom 93 = .ok (.iload_n 2, 1) := by decide +kernel
theorem dX0_takeFrom_94 : decode cX0_takeFrom 94 = .ok (.aaload, 1) := by decide +kernel
theorem dX0_takeFrom_95 : decode cX0_takeFrom 95 = .ok (.invokevirtual 69, 3) := by decide +kernel
theorem dX0_takeFrom_98 : decode cX0_takeFrom 98 = .ok (.iinc 2 1, 3) := by decide +kernel
theorem dX0_takeFrom_101 : decode cX0_takeFrom 101 = .ok (.goto (-23), 3) := by decide +kernel
theorem dX0_takeFrom_104 : decode cX0_takeFrom 104 = .ok (.return_, 1) := by decide +kernel
theorem dX11_keep_0 : decode cX11_keep 0 = .ok (.iload_n 1, 1) := by decide +kernel
theorem dX11_keep_1 : decode cX11_keep 1 = .ok (.ifCond .lt 8, 3) := by decide +kernel
theorem dX11_keep_9 : decode cX11_keep 9 = .ok (.bipush (-2), 2) := by decide +kernel
theorem dX11_keep_11 : decode cX11_keep 11 = .ok (.ireturn, 1) := by decide +kernel
theorem dX11_keep_4 : decode cX11_keep 4 = .ok (.iload_n 1, 1) := by decide +kernel
theorem dX11_keep_5 : decode cX11_keep 5 = .ok (.iconst 3, 1) := by decide +kernel
theorem dX11_keep_6 : decode cX11_keep 6 = .ok (.if_icmp .lt 6, 3) := by decide +kernel
theorem dX11_keep_12 : decode cX11_keep 12 = .ok (.aload_n 0, 1) := by decide +kernel
theorem dX11_keep_13 : decode cX11_keep 13 = .ok (.getfield 23, 3) := by decide +kernel
theorem dX11_keep_16 : decode cX11_keep 16 = .ok (.iload_n 1, 1) := by decide +kernel
theorem dX11_keep_17 : decode cX11_keep 17 = .ok (.aaload, 1) := by decide +kernel
theorem dX11_keep_18 : decode cX11_keep 18 = .ok (.ifnonnull 16, 3) := by decide +kernel
theorem dX11_keep_21 : decode cX11_keep 21 = .ok (.aload_n 0, 1) := by decide +kernel
theorem dX11_keep_22 : decode cX11_keep 22 = .ok (.getfield 23, 3) := by decide +kernel
theorem dX11_keep_25 : decode cX11_keep 25 = .ok (.iload_n 1, 1) := by decide +kernel
theorem dX11_keep_26 : decode cX11_keep 26 = .ok (.new 16, 3) := by decide +kernel
theorem dX11_keep_29 : decode cX11_keep 29 = .ok (.dup, 1) := by decide +kernel
theorem dX11_keep_30 : decode cX11_keep 30 = .ok (.invokespecial 18, 3) := by decide +kernel
theorem dX11_keep_33 : decode cX11_keep 33 = .ok (.aastore, 1) := by decide +kernel
theorem dX11_keep_34 : decode cX11_keep 34 = .ok (.aload_n 0, 1) := by decide +kernel
theorem dX11_keep_35 : decode cX11_keep 35 = .ok (.getfield 23, 3) := by decide +kernel
theorem dX11_keep_38 : decode cX11_keep 38 = .ok (.iload_n 1, 1) := by decide +kernel
theorem dX11_keep_39 : decode cX11_keep 39 = .ok (.aaload, 1) := by decide +kernel
theorem dX11_keep_40 : decode cX11_keep 40 = .ok (.aload_n 0, 1) := by decide +kernel
theorem dX11_keep_41 : decode cX11_keep 41 = .ok (.getfield 19, 3) := by decide +kernel
theorem dX11_keep_44 : decode cX11_keep 44 = .ok (.invokevirtual 350, 3) := by decide +kernel
theorem dX11_keep_47 : decode cX11_keep 47 = .ok (.iconst 0, 1) := by decide +kernel
theorem dX11_keep_48 : decode cX11_keep 48 = .ok (.ireturn, 1) := by decide +kernel
