theorem dX11_bit_67 : decode cX11_bit 67 = .ok (.iload_n 1, 1) := by decide +kernel
theorem dX11_bit_68 : decode cX11_bit 68 = .ok (.aaload, 1) := by decide +kernel
theorem dX11_bit_69 : decode cX11_bit 69 = .ok (.iload_n 3, 1) := by decide +kernel
theorem dX11_bit_70 : decode cX11_bit 70 = .ok (.invokevirtual 225, 3) := by decide +kernel
theorem dX11_bit_73 : decode cX11_bit 73 = .ok (.ireturn, 1) := by decide +kernel
theorem dX11_bit_13 : decode cX11_bit 13 = .ok (.iload 4, 2) := by decide +kernel
theorem dX11_bit_15 : decode cX11_bit 15 = .ok (.ireturn, 1) := by decide +kernel
theorem dX11_dim_0 : decode cX11_dim 0 = .ok (.aload_n 0, 1) := by decide +kernel
theorem dX11_dim_1 : decode cX11_dim 1 = .ok (.iload_n 1, 1) := by decide +kernel
theorem dX11_dim_2 : decode cX11_dim 2 = .ok (.iload_n 2, 1) := by decide +kernel
theorem dX11_dim_3 : decode cX11_dim 3 = .ok (.invokevirtual 198, 3) := by decide +kernel
theorem dX11_dim_6 : decode cX11_dim 6 = .ok (.istore_n 3, 1) := by decide +kernel
theorem dX11_dim_7 : decode cX11_dim 7 = .ok (.iload_n 3, 1) := by decide +kernel
theorem dX11_dim_8 : decode cX11_dim 8 = .ok (.ifCond .eq 5, 3) := by decide +kernel
theorem dX11_dim_13 : decode cX11_dim 13 = .ok (.aload_n 0, 1) := by decide +kernel
theorem dX11_dim_14 : decode cX11_dim 14 = .ok (.getfield 78, 3) := by decide +kernel
theorem dX11_dim_17 : decode cX11_dim 17 = .ok (.aload_n 0, 1) := by decide +kernel
theorem dX11_dim_18 : decode cX11_dim 18 = .ok (.getfield 19, 3) := by decide +kernel
theorem dX11_dim_21 : decode cX11_dim 21 = .ok (.getfield 146, 3) := by decide +kernel
theorem dX11_dim_24 : decode cX11_dim 24 = .ok (.iload_n 2, 1) := by decide +kernel
theorem dX11_dim_25 : decode cX11_dim 25 = .ok (.aaload, 1) := by decide +kernel
theorem dX11_dim_26 : decode cX11_dim 26 = .ok (.aload_n 0, 1) := by decide +kernel
theorem dX11_dim_27 : decode cX11_dim 27 = .ok (.getfield 19, 3) := by decide +kernel
theorem dX11_dim_30 : decode cX11_dim 30 = .ok (.getfield 116, 3) := by decide +kernel
theorem dX11_dim_33 : decode cX11_dim 33 = .ok (.invokevirtual 218, 3) := by decide +kernel
theorem dX11_dim_36 : decode cX11_dim 36 = .ok (.iconst 0, 1) := by decide +kernel
theorem dX11_dim_37 : decode cX11_dim 37 = .ok (.istore 4, 2) := by decide +kernel
theorem dX11_dim_39 : decode cX11_dim 39 = .ok (.iconst 0, 1) := by decide +kernel
theorem dX11_dim_40 : decode cX11_dim 40 = .ok (.istore 5, 2) := by decide +kernel
theorem dX11_dim_42 : decode cX11_dim 42 = .ok (.iload 5, 2) := by decide +kernel
theorem dX11_dim_44 : decode cX11_dim 44 = .ok (.aload_n 0, 1) := by decide +kernel
theorem dX11_dim_45 : decode cX11_dim 45 = .ok (.getfield 78, 3) := by decide +kernel
theorem dX11_dim_48 : decode cX11_dim 48 = .ok (.getfield 222, 3) := by decide +kernel
theorem dX11_dim_51 : decode cX11_dim 51 = .ok (.if_icmp .ge 34, 3) := by decide +kernel
theorem dX11_dim_85 : decode cX11_dim 85 = .ok (.iload 4, 2) := by decide +kernel
theorem dX11_dim_87 : decode cX11_dim 87 = .ok (.ireturn, 1) := by decide +kernel
theorem dX11_dim_54 : decode cX11_dim 54 = .ok (.aload_n 0, 1) := by decide +kernel
theorem dX11_dim_55 : decode cX11_dim 55 = .ok (.getfield 78, 3) := by decide +kernel
theorem dX11_dim_58 : decode cX11_dim 58 = .ok (.aload_n 0, 1) := by decide +kernel
theorem dX11_dim_59 : decode cX11_dim 59 = .ok (.getfield 19, 3) := by decide +kernel
theorem dX11_dim_62 : decode cX11_dim 62 = .ok (.getfield 190, 3) := by decide +kernel
theorem dX11_dim_65 : decode cX11_dim 65 = .ok (.iload_n 1, 1) := by decide +kernel
theorem dX11_dim_66 : decode cX11_dim 66 = .ok (.aaload, 1) := by decide +kernel
theorem dX11_dim_67 : decode cX11_dim 67 = .ok (.iload 5, 2) := by decide +kernel
theorem dX11_dim_69 : decode cX11_dim 69 = .ok (.invokevirtual 225, 3) := by decide +kernel
theorem dX11_dim_72 : decode cX11_dim 72 = .ok (.iconst 2, 1) := by decide +kernel
theorem dX11_dim_73 : decode cX11_dim 73 = .ok (.if_icmp .ne 6, 3) := by decide +kernel
theorem dX11_dim_79 : decode cX11_dim 79 = .ok (.iinc 5 1, 3) := by decide +kernel
theorem dX11_dim_82 : decode cX11_dim 82 = .ok (.goto (-40), 3) := by decide +kernel
theorem dX11_dim_76 : decode cX11_dim 76 = .ok (.iinc 4 1, 3) := by decide +kernel
theorem dX11_dim_11 : decode cX11_dim 11 = .ok (.iload_n 3, 1) := by decide +kernel
theorem dX11_dim_12 : decode cX11_dim 12 = .ok (.ireturn, 1) := by decide +kernel
theorem dX11_refusalOfCloth_0 : decode cX11_refusalOfCloth 0 = .ok (.iload_n 1, 1) := by decide +kernel
theorem dX11_refusalOfCloth_1 : decode cX11_refusalOfCloth 1 = .ok (.invokestatic 181, 3) := by decide +kernel
theorem dX11_refusalOfCloth_4 : decode cX11_refusalOfCloth 4 = .ok (.ifCond .ne 6, 3) := by decide +kernel
theorem dX11_refusalOfCloth_10 : decode cX11_refusalOfCloth 10 = .ok (.aload_n 0, 1) := by decide +kernel
theorem dX11_refusalOfCloth_11 : decode cX11_refusalOfCloth 11 = .ok (.iload_n 1, 1) := by decide +kernel
theorem dX11_refusalOfCloth_12 : decode cX11_refusalOfCloth 12 = .ok (.invokevirtual 239, 3) := by decide +kernel
theorem dX11_refusalOfCloth_15 : decode cX11_refusalOfCloth 15 = .ok (.ifCond .eq 7, 3) := by decide +kernel
theorem dX11_refusalOfCloth_22 : decode cX11_refusalOfCloth 22 = .ok (.bipush (-6), 2) := by decide +kernel
theorem dX11_refusalOfCloth_24 : decode cX11_refusalOfCloth 24 = .ok (.ireturn, 1) := by decide +kernel
theorem dX11_refusalOfCloth_18 : decode cX11_refusalOfCloth 18 = .ok (.iconst 0, 1) := by decide +kernel
theorem dX11_refusalOfCloth_19 : decode cX11_refusalOfCloth 19 = .ok (.goto 5, 3) := by decide +kernel
theorem dX11_refusalOfCloth_7 : decode cX11_refusalOfCloth 7 = .ok (.bipush (-2), 2) := by decide +kernel
theorem dX11_refusalOfCloth_9 : decode cX11_refusalOfCloth 9 = .ok (.ireturn, 1) := by decide +kernel
theorem dX11_says_0 : decode cX11_says 0 = .ok (.aload_n 0, 1) := by decide +kernel
theorem dX11_says_1 : decode cX11_says 1 = .ok (.iload_n 1, 1) := by decide +kernel
theorem dX11_says_2 : decode cX11_says 2 = .ok (.invokevirtual 229, 3) := by decide +kernel
theorem dX11_says_5 : decode cX11_says 5 = .ok (.istore_n 2, 1) := by decide +kernel
theorem dX11_says_6 : decode cX11_says 6 = .ok (.iload_n 2, 1) := by decide +kernel
theorem dX11_says_7 : decode cX11_says 7 = .ok (.ifCond .eq 5, 3) := by decide +kernel
theorem dX11_says_12 : decode cX11_says 12 = .ok (.iconst 0, 1) := by decide +kernel
theorem dX11_says_13 : decode cX11_says 13 = .ok (.istore_n 3, 1) := by decide +kernel
theorem dX11_says_14 : decode cX11_says 14 = .ok (.iconst 0, 1) := by decide +kernel
theorem dX11_says_15 : decode cX11_says 15 = .ok (.istore 4, 2) := by decide +kernel
theorem dX11_says_17 : decode cX11_says 17 = .ok (.iload 4, 2) := by decide +kernel
theorem dX11_says_19 : decode cX11_says 19 = .ok (.bipush 6, 2) := by decide +kernel
theorem dX11_says_21 : decode cX11_says 21 = .ok (.if_icmp .ge 58, 3) := by decide +kernel
theorem dX11_says_79 : decode cX11_says 79 = .ok (.iload_n 3, 1) := by decide +kernel
theorem dX11_says_80 : decode cX11_says 80 = .ok (.ireturn, 1) := by decide +kernel
theorem dX11_says_24 : decode cX11_says 24 = .ok (.aload_n 0, 1) := by decide +kernel
theorem dX11_says_25 : decode cX11_says 25 = .ok (.getfield 19, 3) := by decide +kernel
theorem dX11_says_28 : decode cX11_says 28 = .ok (.getfield 146, 3) := by decide +kernel
theorem dX11_says_31 : decode cX11_says 31 = .ok (.iload 4, 2) := by decide +kernel
theorem dX11_says_33 : decode cX11_says 33 = .ok (.aaload, 1) := by decide +kernel
theorem dX11_says_34 : decode cX11_says 34 = .ok (.getfield 232, 3) := by decide +kernel
theorem dX11_says_37 : decode cX11_says 37 = .ok (.ifCond .eq 36, 3) := by decide +kernel
theorem dX11_says_73 : decode cX11_says 73 = .ok (.iinc 4 1, 3) := by decide +kernel
theorem dX11_says_76 : decode cX11_says 76 = .ok (.goto (-59), 3) := by decide +kernel
theorem dX11_says_40 : decode cX11_says 40 = .ok (.aload_n 0, 1) := by decide +kernel
theorem dX11_says_41 : decode cX11_says 41 = .ok (.aload_n 0, 1) := by decide +kernel
theorem dX11_says_42 : decode cX11_says 42 = .ok (.getfield 19, 3) := by decide +kernel
theorem dX11_says_45 : decode cX11_says 45 = .ok (.getfield 190, 3) := by decide +kernel
theorem dX11_says_48 : decode cX11_says 48 = .ok (.iload_n 1, 1) := by decide +kernel
theorem dX11_says_49 : decode cX11_says 49 = .ok (.aaload, 1) := by decide +kernel
theorem dX11_says_50 : decode cX11_says 50 = .ok (.aload_n 0, 1) := by decide +kernel
theorem dX11_says_51 : decode cX11_says 51 = .ok (.getfield 19, 3) := by decide +kernel
theorem dX11_says_54 : decode cX11_says 54 = .ok (.getfield 146, 3) := by decide +kernel
theorem dX11_says_57 : decode cX11_says 57 = .ok (.iload 4, 2) := by decide +kernel
theorem dX11_says_59 : decode cX11_says 59 = .ok (.aaload, 1) := by decide +kernel
theorem dX11_says_60 : decode cX11_says 60 = .ok (.invokevirtual 206, 3) := by decide +kernel
theorem dX11_says_63 : decode cX11_says 63 = .ok (.ifCond .eq 10, 3) := by decide +kernel
theorem dX11_says_66 : decode cX11_says 66 = .ok (.iload_n 3, 1) := by decide +kernel
theorem dX11_says_67 : decode cX11_says 67 = .ok (.iconst 1, 1) := by decide +kernel
theorem dX11_says_68 : decode cX11_says 68 = .ok (.iload 4, 2) := by decide +kernel
theorem dX11_says_70 : decode cX11_says 70 = .ok (.ishl, 1) := by decide +kernel
theorem dX11_says_71 : decode cX11_says 71 = .ok (.ior, 1) := by decide +kernel
theorem dX11_says_72 : decode cX11_says 72 = .ok (.istore_n 3, 1) := by decide +kernel
theorem dX11_says_10 : decode cX11_says 10 = .ok (.iload_n 2, 1) := by decide +kernel
theorem dX11_says_11 : decode cX11_says 11 = .ok (.ireturn, 1) := by decide +kernel
theorem dX11_at_0 : decode cX11_at 0 = .ok (.aload_n 0, 1) := by decide +kernel
theorem dX11_at_1 : decode cX11_at 1 = .ok (.getfield 19, 3) := by decide +kernel
theorem dX11_at_4 : decode cX11_at 4 = .ok (.getfield 116, 3) := by decide +kernel
theorem dX11_at_7 : decode cX11_at 7 = .ok (.iload_n 2, 1) := by decide +kernel
theorem dX11_at_8 : decode cX11_at 8 = .ok (.iload_n 3, 1) := by decide +kernel
theorem dX11_at_9 : decode cX11_at 9 = .ok (.invokevirtual 236, 3) := by decide +kernel
theorem dX11_at_12 : decode cX11_at 12 = .ok (.istore 4, 2) := by decide +kernel
theorem dX11_at_14 : decode cX11_at 14 = .ok (.aload_n 0, 1) := by decide +kernel
theorem dX11_at_15 : decode cX11_at 15 = .ok (.iload_n 1, 1) := by decide +kernel
theorem dX11_at_16 : decode cX11_at 16 = .ok (.invokevirtual 239, 3) := by decide +kernel
theorem dX11_at_19 : decode cX11_at 19 = .ok (.ifCond .eq 9, 3) := by decide +kernel
theorem dX11_at_28 : decode cX11_at 28 = .ok (.iconst (-1), 1) := by decide +kernel
theorem dX11_at_29 : decode cX11_at 29 = .ok (.ireturn, 1) := by decide +kernel
theorem dX11_at_22 : decode cX11_at 22 = .ok (.iload 4, 2) := by decide +kernel
theorem dX11_at_24 : decode cX11_at 24 = .ok (.iconst (-1), 1) := by decide +kernel
theorem dX11_at_25 : decode cX11_at 25 = .ok (.if_icmp .ne 5, 3) := by decide +kernel
theorem dX11_at_30 : decode cX11_at 30 = .ok (.aload_n 0, 1) := by decide +kernel
theorem dX11_at_31 : decode cX11_at 31 = .ok (.getfield 19, 3) := by decide +kernel
theorem dX11_at_34 : decode cX11_at 34 = .ok (.getfield 190, 3) := by decide +kernel
theorem dX11_at_37 : decode cX11_at 37 = .ok (.iload_n 1, 1) := by decide +kernel
theorem dX11_at_38 : decode cX11_at 38 = .ok (.aaload, 1) := by decide +kernel
theorem dX11_at_39 : decode cX11_at 39 = .ok (.iload 4, 2) := by decide +kernel
theorem dX11_at_41 : decode cX11_at 41 = .ok (.invokevirtual 242, 3) := by decide +kernel
theorem dX11_at_44 : decode cX11_at 44 = .ok (.ireturn, 1) := by decide +kernel
theorem dX11_sort_0 : decode cX11_sort 0 = .ok (.aload_n 0, 1) := by decide +kernel
theorem dX11_sort_1 : decode cX11_sort 1 = .ok (.getfield 19, 3) := by decide +kernel
theorem dX11_sort_4 : decode cX11_sort 4 = .ok (.getfield 116, 3) := by decide +kernel
theorem dX11_sort_7 : decode cX11_sort 7 = .ok (.aload_n 0, 1) := by decide +kernel
theorem dX11_sort_8 : decode cX11_sort 8 = .ok (.getfield 19, 3) := by decide +kernel
theorem dX11_sort_11 : decode cX11_sort 11 = .ok (.getfield 116, 3) := by decide +kernel
theorem dX11_sort_14 : decode cX11_sort 14 = .ok (.iload_n 1, 1) := by decide +kernel
theorem dX11_sort_15 : decode cX11_sort 15 = .ok (.iload_n 2, 1) := by decide +kernel
theorem dX11_sort_16 : decode cX11_sort 16 = .ok (.invokevirtual 236, 3) := by decide +kernel
theorem dX11_sort_19 : decode cX11_sort 19 = .ok (.invokevirtual 245, 3) := by decide +kernel
theorem dX11_sort_22 : decode cX11_sort 22 = .ok (.ireturn, 1) := by decide +kernel
theorem dX11_refusalOfWay_0 : decode cX11_refusalOfWay 0 = .ok (.iload_n 1, 1) := by decide +kernel
theorem dX11_refusalOfWay_1 : decode cX11_refusalOfWay 1 = .ok (.invokestatic 142, 3) := by decide +kernel
theorem dX11_refusalOfWay_4 : decode cX11_refusalOfWay 4 = .ok (.ifCond .ne 6, 3) := by decide +kernel
theorem dX11_refusalOfWay_10 : decode cX11_refusalOfWay 10 = .ok (.aload_n 0, 1) := by decide +kernel
theorem dX11_refusalOfWay_11 : decode cX11_refusalOfWay 11 = .ok (.getfield 19, 3) := by decide +kernel
theorem dX11_refusalOfWay_14 : decode cX11_refusalOfWay 14 = .ok (.getfield 146, 3) := by decide +kernel
theorem dX11_refusalOfWay_17 : decode cX11_refusalOfWay 17 = .ok (.iload_n 1, 1) := by decide +kernel
theorem dX11_refusalOfWay_18 : decode cX11_refusalOfWay 18 = .ok (.aaload, 1) := by decide +kernel
theorem dX11_refusalOfWay_19 : decode cX11_refusalOfWay 19 = .ok (.getfield 232, 3) := by decide +kernel
theorem dX11_refusalOfWay_22 : decode cX11_refusalOfWay 22 = .ok (.ifCond .eq 7, 3) := by decide +kernel
theorem dX11_refusalOfWay_29 : decode cX11_refusalOfWay 29 = .ok (.bipush (-6), 2) := by decide +kernel
theorem dX11_refusalOfWay_31 : decode cX11_refusalOfWay 31 = .ok (.ireturn, 1) := by decide +kernel
theorem dX11_refusalOfWay_25 : decode cX11_refusalOfWay 25 = .ok (.iconst 0, 1) := by decide +kernel
theorem dX11_refusalOfWay_26 : decode cX11_refusalOfWay 26 = .ok (.goto 5, 3) := by decide +kernel
theorem dX11_refusalOfWay_7 : decode cX11_refusalOfWay 7 = .ok (.bipush (-2), 2) := by decide +kernel
theorem dX11_refusalOfWay_9 : decode cX11_refusalOfWay 9 = .ok (.ireturn, 1) := by decide +kernel
theorem dX11_place_0 : decode cX11_place 0 = .ok (.aload_n 0, 1) := by decide +kernel
theorem dX11_place_1 : decode cX11_place 1 = .ok (.iload_n 1, 1) := by decide +kernel
theorem dX11_place_2 : decode cX11_place 2 = .ok (.invokevirtual 248, 3) := by decide +kernel
theorem dX11_place_5 : decode cX11_place 5 = .ok (.istore_n 3, 1) := by decide +kernel
theorem dX11_place_6 : decode cX11_place 6 = .ok (.iload_n 3, 1) := by decide +kernel
theorem dX11_place_7 : decode cX11_place 7 = .ok (.ifCond .eq 5, 3) := by decide +kernel
theorem dX11_place_12 : decode cX11_place 12 = .ok (.aload_n 0, 1) := by decide +kernel
theorem dX11_place_13 : decode cX11_place 13 = .ok (.getfield 78, 3) := by decide +kernel
theorem dX11_place_16 : decode cX11_place 16 = .ok (.aload_n 0, 1) := by decide +kernel
theorem dX11_place_17 : decode cX11_place 17 = .ok (.getfield 19, 3) := by decide +kernel
theorem dX11_place_20 : decode cX11_place 20 = .ok (.getfield 146, 3) := by decide +kernel
theorem dX11_place_23 : decode cX11_place 23 = .ok (.iload_n 1, 1) := by decide +kernel
theorem dX11_place_24 : decode cX11_place 24 = .ok (.aaload, 1) := by decide +kernel
theorem dX11_place_25 : decode cX11_place 25 = .ok (.aload_n 0, 1) := by decide +kernel
theorem dX11_place_26 : decode cX11_place 26 = .ok (.getfield 19, 3) := by decide +kernel
theorem dX11_place_29 : decode cX11_place 29 = .ok (.getfield 116, 3) := by decide +kernel
theorem dX11_place_32 : decode cX11_place 32 = .ok (.invokevirtual 218, 3) := by decide +kernel
theorem dX11_place_35 : decode cX11_place 35 = .ok (.aload_n 0, 1) := by decide +kernel
theorem dX11_place_36 : decode cX11_place 36 = .ok (.getfield 78, 3) := by decide +kernel
theorem dX11_place_39 : decode cX11_place 39 = .ok (.iload_n 2, 1) := by decide +kernel
theorem dX11_place_40 : decode cX11_place 40 = .ok (.invokevirtual 251, 3) := by decide +kernel
theorem dX11_place_43 : decode cX11_place 43 = .ok (.istore 4, 2) := by decide +kernel
theorem dX11_place_45 : decode cX11_place 45 = .ok (.iload 4, 2) := by decide +kernel
theorem dX11_place_47 : decode cX11_place 47 = .ok (.iconst (-1), 1) := by decide +kernel
theorem dX11_place_48 : decode cX11_place 48 = .ok (.if_icmp .ne 5, 3) := by decide +kernel
theorem dX11_place_53 : decode cX11_place 53 = .ok (.bipush 100, 2) := by decide +kernel
theorem dX11_place_55 : decode cX11_place 55 = .ok (.aload_n 0, 1) := by decide +kernel
theorem dX11_place_56 : decode cX11_place 56 = .ok (.getfield 19, 3) := by decide +kernel
theorem dX11_place_59 : decode cX11_place 59 = .ok (.getfield 116, 3) := by decide +kernel
theorem dX11_place_62 : decode cX11_place 62 = .ok (.iload 4, 2) := by decide +kernel
theorem dX11_place_64 : decode cX11_place 64 = .ok (.invokevirtual 254, 3) := by decide +kernel
theorem dX11_place_67 : decode cX11_place 67 = .ok (.imul, 1) := by decide +kernel
theorem dX11_place_68 : decode cX11_place 68 = .ok (.aload_n 0, 1) := by decide +kernel
theorem dX11_place_69 : decode cX11_place 69 = .ok (.getfield 19, 3) := by decide +kernel
theorem dX11_place_72 : decode cX11_place 72 = .ok (.getfield 116, 3) := by decide +kernel
theorem dX11_place_75 : decode cX11_place 75 = .ok (.iload 4, 2) := by decide +kernel
theorem dX11_place_77 : decode cX11_place 77 = .ok (.invokevirtual 257, 3) := by decide +kernel
theorem dX11_place_80 : decode cX11_place 80 = .ok (.iadd, 1) := by decide +kernel
theorem dX11_place_81 : decode cX11_place 81 = .ok (.ireturn, 1) := by decide +kernel
theorem dX11_place_51 : decode cX11_place 51 = .ok (.iconst (-1), 1) := by decide +kernel
theorem dX11_place_52 : decode cX11_place 52 = .ok (.ireturn, 1) := by decide +kernel
theorem dX11_place_10 : decode cX11_place 10 = .ok (.iload_n 3, 1) := by decide +kernel
theorem dX11_place_11 : decode cX11_place 11 = .ok (.ireturn, 1) := by decide +kernel
theorem dX11_room_0 : decode cX11_room 0 = .ok (.aload_n 0, 1) := by decide +kernel
theorem dX11_room_1 : decode cX11_room 1 = .ok (.iload_n 1, 1) := by decide +kernel
theorem dX11_room_2 : decode cX11_room 2 = .ok (.invokevirtual 248, 3) := by decide +kernel
theorem dX11_room_5 : decode cX11_room 5 = .ok (.istore_n 2, 1) := by decide +kernel
theorem dX11_room_6 : decode cX11_room 6 = .ok (.iload_n 2, 1) := by decide +kernel
theorem dX11_room_7 : decode cX11_room 7 = .ok (.ifCond .eq 7, 3) := by decide +kernel
theorem dX11_room_14 : decode cX11_room 14 = .ok (.aload_n 0, 1) := by decide +kernel
theorem dX11_room_15 : decode cX11_room 15 = .ok (.aload_n 0, 1) := by decide +kernel
theorem dX11_room_16 : decode cX11_room 16 = .ok (.getfield 19, 3) := by decide +kernel
theorem dX11_room_19 : decode cX11_room 19 = .ok (.getfield 146, 3) := by decide +kernel
theorem dX11_room_22 : decode cX11_room 22 = .ok (.iload_n 1, 1) := by decide +kernel
theorem dX11_room_23 : decode cX11_room 23 = .ok (.aaload, 1) := by decide +kernel
theorem dX11_room_24 : decode cX11_room 24 = .ok (.invokevirtual 153, 3) := by decide +kernel
theorem dX11_room_27 : decode cX11_room 27 = .ok (.ireturn, 1) := by decide +kernel
theorem dX11_room_10 : decode cX11_room 10 = .ok (.iload_n 2, 1) := by decide +kernel
theorem dX11_room_11 : decode cX11_room 11 = .ok (.goto 16, 3) := by decide +kernel
theorem dX11_most_0 : decode cX11_most 0 = .ok (.aload_n 0, 1) := by decide +kernel
theorem dX11_most_1 : decode cX11_most 1 = .ok (.iload_n 1, 1) := by decide +kernel
theorem dX11_most_2 : decode cX11_most 2 = .ok (.invokevirtual 248, 3) := by decide +kernel
theorem dX11_most_5 : decode cX11_most 5 = .ok (.istore_n 2, 1) := by decide +kernel
theorem dX11_most_6 : decode cX11_most 6 = .ok (.iload_n 2, 1) := by decide +kernel
theorem dX11_most_7 : decode cX11_most 7 = .ok (.ifCond .eq 7, 3) := by decide +kernel
theorem dX11_most_14 : decode cX11_most 14 = .ok (.iconst 0, 1) := by decide +kernel
theorem dX11_most_15 : decode cX11_most 15 = .ok (.aload_n 0, 1) := by decide +kernel
theorem dX11_most_16 : decode cX11_most 16 = .ok (.aload_n 0, 1) := by decide +kernel
theorem dX11_most_17 : decode cX11_most 17 = .ok (.getfield 19, 3) := by decide +kernel
theorem dX11_most_20 : decode cX11_most 20 = .ok (.getfield 146, 3) := by decide +kernel
theorem dX11_most_23 : decode cX11_most 23 = .ok (.iload_n 1, 1) := by decide +kernel
theorem dX11_most_24 : decode cX11_most 24 = .ok (.aaload, 1) := by decide +kernel
theorem dX11_most_25 : decode cX11_most 25 = .ok (.invokevirtual 153, 3) := by decide +kernel
theorem dX11_most_28 : decode cX11_most 28 = .ok (.iconst 5, 1) := by decide +kernel
theorem dX11_most_29 : decode cX11_most 29 = .ok (.idiv, 1) := by decide +kernel
theorem dX11_most_30 : decode cX11_most 30 = .ok (.iconst 1, 1) := by decide +kernel
theorem dX11_most_31 : decode cX11_most 31 = .ok (.isub, 1) := by decide +kernel
theorem dX11_most_32 : decode cX11_most 32 = .ok (.invokestatic 260, 3) := by decide +kernel
theorem dX11_most_35 : decode cX11_most 35 = .ok (.ireturn, 1) := by decide +kernel
theorem dX11_most_10 : decode cX11_most 10 = .ok (.iload_n 2, 1) := by decide +kernel
theorem dX11_most_11 : decode cX11_most 11 = .ok (.goto 24, 3) := by decide +kernel
theorem dX11_counts_0 : decode cX11_counts 0 = .ok (.iload_n 1, 1) := by decide +kernel
theorem dX11_counts_1 : decode cX11_counts 1 = .ok (.invokestatic 181, 3) := by decide +kernel
theorem dX11_counts_4 : decode cX11_counts 4 = .ok (.ifCond .eq 13, 3) := by decide +kernel
theorem dX11_counts_17 : decode cX11_counts 17 = .ok (.bipush (-2), 2) := by decide +kernel
theorem dX11_counts_19 : decode cX11_counts 19 = .ok (.ireturn, 1) := by decide +kernel
theorem dX11_counts_7 : decode cX11_counts 7 = .ok (.iload_n 2, 1) := by decide +kernel
theorem dX11_counts_8 : decode cX11_counts 8 = .ok (.ifCond .lt 9, 3) := by decide +kernel
theorem dX11_counts_11 : decode cX11_counts 11 = .ok (.iload_n 2, 1) := by decide +kernel
theorem dX11_counts_12 : decode cX11_counts 12 = .ok (.bipush 8, 2) := by decide +kernel
theorem dX11_counts_14 : decode cX11_counts 14 = .ok (.if_icmp .lt 6, 3) := by decide +kernel
theorem dX11_counts_20 : decode cX11_counts 20 = .ok (.aload_n 0, 1) := by decide +kernel
theorem dX11_counts_21 : decode cX11_counts 21 = .ok (.iload_n 1, 1) := by decide +kernel
theorem dX11_counts_22 : decode cX11_counts 22 = .ok (.invokevirtual 239, 3) := by decide +kernel
theorem dX11_counts_25 : decode cX11_counts 25 = .ok (.ifCond .ne 6, 3) := by decide +kernel
theorem dX11_counts_31 : decode cX11_counts 31 = .ok (.aload_n 0, 1) := by decide +kernel
theorem dX11_counts_32 : decode cX11_counts 32 = .ok (.getfield 92, 3) := by decide +kernel
theorem dX11_counts_35 : decode cX11_counts 35 = .ok (.aload_n 0, 1) := by decide +kernel
theorem dX11_counts_36 : decode cX11_counts 36 = .ok (.getfield 19, 3) := by decide +kernel
theorem dX11_counts_39 : decode cX11_counts 39 = .ok (.getfield 116, 3) := by decide +kernel
theorem dX11_counts_42 : decode cX11_counts 42 = .ok (.aload_n 0, 1) := by decide +kernel
theorem dX11_counts_43 : decode cX11_counts 43 = .ok (.getfield 19, 3) := by decide +kernel
theorem dX11_counts_46 : decode cX11_counts 46 = .ok (.getfield 190, 3) := by decide +kernel
theorem dX11_counts_49 : decode cX11_counts 49 = .ok (.iload_n 1, 1) := by decide +kernel
theorem dX11_counts_50 : decode cX11_counts 50 = .ok (.aaload, 1) := by decide +kernel
theorem dX11_counts_51 : decode cX11_counts 51 = .ok (.invokevirtual 265, 3) := by decide +kernel
theorem dX11_counts_54 : decode cX11_counts 54 = .ok (.aload_n 0, 1) := by decide +kernel
theorem dX11_counts_55 : decode cX11_counts 55 = .ok (.getfield 92, 3) := by decide +kernel
theorem dX11_counts_58 : decode cX11_counts 58 = .ok (.iload_n 2, 1) := by decide +kernel
theorem dX11_counts_59 : decode cX11_counts 59 = .ok (.invokevirtual 269, 3) := by decide +kernel
theorem dX11_counts_62 : decode cX11_counts 62 = .ok (.ireturn, 1) := by decide +kernel
theorem dX11_counts_28 : decode cX11_counts 28 = .ok (.bipush (-6), 2) := by decide +kernel
theorem dX11_counts_30 : decode cX11_counts 30 = .ok (.ireturn, 1) := by decide +kernel
theorem dX11_lineThatStops_0 : decode cX11_lineThatStops 0 = .ok (.aload_n 0, 1) := by decide +kernel
theorem dX11_lineThatStops_1 : decode cX11_lineThatStops 1 = .ok (.getfield 92, 3) := by decide +kernel
theorem dX11_lineThatStops_4 : decode cX11_lineThatStops 4 = .ok (.aload_n 0, 1) := by decide +kernel
theorem dX11_lineThatStops_5 : decode cX11_lineThatStops 5 = .ok (.getfield 19, 3) := by decide +kernel
theorem dX11_lineThatStops_8 : decode cX11_lineThatStops 8 = .ok (.getfield 116, 3) := by decide +kernel
theorem dX11_lineThatStops_11 : decode cX11_lineThatStops 11 = .ok (.aload_n 1, 1) := by decide +kernel
theorem dX11_lineThatStops_12 : decode cX11_lineThatStops 12 = .ok (.invokevirtual 265, 3) := by decide +kernel
theorem dX11_lineThatStops_15 : decode cX11_lineThatStops 15 = .ok (.aload_n 0, 1) := by decide +kernel
theorem dX11_lineThatStops_16 : decode cX11_lineThatStops 16 = .ok (.getfield 19, 3) := by decide +kernel
theorem dX11_lineThatStops_19 : decode cX11_lineThatStops 19 = .ok (.getfield 158, 3) := by decide +kernel
theorem dX11_lineThatStops_22 : decode cX11_lineThatStops 22 = .ok (.aload_n 0, 1) := by decide +kernel
theorem dX11_lineThatStops_23 : decode cX11_lineThatStops 23 = .ok (.getfield 92, 3) := by decide +kernel
theorem dX11_lineThatStops_26 : decode cX11_lineThatStops 26 = .ok (.invokevirtual 425, 3) := by decide +kernel
theorem dX11_lineThatStops_29 : decode cX11_lineThatStops 29 = .ok (.ireturn, 1) := by decide +kernel
theorem dX11_stops_0 : decode cX11_stops 0 = .ok (.aload_n 0, 1) := by decide +kernel
theorem dX11_stops_1 : decode cX11_stops 1 = .ok (.iload_n 1, 1) := by decide +kernel
theorem dX11_stops_2 : decode cX11_stops 2 = .ok (.invokevirtual 229, 3) := by decide +kernel
theorem dX11_stops_5 : decode cX11_stops 5 = .ok (.istore_n 2, 1) := by decide +kernel
theorem dX11_stops_6 : decode cX11_stops 6 = .ok (.iload_n 2, 1) := by decide +kernel
theorem dX11_stops_7 : decode cX11_stops 7 = .ok (.ifCond .eq 7, 3) := by decide +kernel
theorem dX11_stops_14 : decode cX11_stops 14 = .ok (.aload_n 0, 1) := by decide +kernel
theorem dX11_stops_15 : decode cX11_stops 15 = .ok (.aload_n 0, 1) := by decide +kernel
theorem dX11_stops_16 : decode cX11_stops 16 = .ok (.getfield 19, 3) := by decide +kernel
theorem dX11_stops_19 : decode cX11_stops 19 = .ok (.getfield 190, 3) := by decide +kernel
theorem dX11_stops_22 : decode cX11_stops 22 = .ok (.iload_n 1, 1) := by decide +kernel
theorem dX11_stops_23 : decode cX11_stops 23 = .ok (.aaload, 1) := by decide +kernel
theorem dX11_stops_24 : decode cX11_stops 24 = .ok (.invokevirtual 272, 3) := by decide +kernel
theorem dX11_stops_27 : decode cX11_stops 27 = .ok (.ireturn, 1) := by decide +kernel
theorem dX11_stops_10 : decode cX11_stops 10 = .ok (.iload_n 2, 1) := by decide +kernel
theorem dX11_stops_11 : decode cX11_stops 11 = .ok (.goto 16, 3) := by decide +kernel
theorem dX11_isManyKnitted_0 : decode cX11_isManyKnitted 0 = .ok (.iload_n 0, 1) := by decide +kernel
theorem dX11_isManyKnitted_1 : decode cX11_isManyKnitted 1 = .ok (.iconst 1, 1) := by decide +kernel
theorem dX11_isManyKnitted_2 : decode cX11_isManyKnitted 2 = .ok (.if_icmp .lt 13, 3) := by decide +kernel
theorem dX11_isManyKnitted_15 : decode cX11_isManyKnitted 15 = .ok (.iconst 0, 1) := by decide +kernel
theorem dX11_isManyKnitted_16 : decode cX11_isManyKnitted 16 = .ok (.ireturn, 1) := by decide +kernel
theorem dX11_isManyKnitted_5 : decode cX11_isManyKnitted 5 = .ok (.iload_n 0, 1) := by decide +kernel
theorem dX11_isManyKnitted_6 : decode cX11_isManyKnitted 6 = .ok (.bipush 50, 2) := by decide +kernel
theorem dX11_isManyKnitted_8 : decode cX11_isManyKnitted 8 = .ok (.if_icmp .gt 7, 3) := by decide +kernel
theorem dX11_isManyKnitted_11 : decode cX11_isManyKnitted 11 = .ok (.iconst 1, 1) := by decide +kernel
theorem dX11_isManyKnitted_12 : decode cX11_isManyKnitted 12 = .ok (.goto 4, 3) := by decide +kernel
theorem dX11_odds_0 : decode cX11_odds 0 = .ok (.iload_n 1, 1) := by decide +kernel
theorem dX11_odds_1 : decode cX11_odds 1 = .ok (.invokestatic 184, 3) := by decide +kernel
theorem dX11_odds_4 : decode cX11_odds 4 = .ok (.ifCond .eq 10, 3) := by decide +kernel
theorem dX11_odds_14 : decode cX11_odds 14 = .ok (.bipush (-2), 2) := by decide +kernel
theorem dX11_odds_16 : decode cX11_odds 16 = .ok (.ireturn, 1) := by decide +kernel
theorem dX11_odds_7 : decode cX11_odds 7 = .ok (.iload_n 2, 1) := by decide +kernel
theorem dX11_odds_8 : decode cX11_odds 8 = .ok (.invokestatic 276, 3) := by decide +kernel
theorem dX11_odds_11 : decode cX11_odds 11 = .ok (.ifCond .ne 6, 3) := by decide +kernel
theorem dX11_odds_17 : decode cX11_odds 17 = .ok (.aload_n 0, 1) := by decide +kernel
theorem dX11_odds_18 : decode cX11_odds 18 = .ok (.getfield 19, 3) := by decide +kernel
theorem dX11_odds_21 : decode cX11_odds 21 = .ok (.getfield 116, 3) := by decide +kernel
theorem dX11_odds_24 : decode cX11_odds 24 = .ok (.invokevirtual 187, 3) := by decide +kernel
theorem dX11_odds_27 : decode cX11_odds 27 = .ok (.ifCond .ne 6, 3) := by decide +kernel
theorem dX11_odds_33 : decode cX11_odds 33 = .ok (.iconst 0, 1) := by decide +kernel
theorem dX11_odds_34 : decode cX11_odds 34 = .ok (.istore_n 3, 1) := by decide +kernel
theorem dX11_odds_35 : decode cX11_odds 35 = .ok (.iconst 0, 1) := by decide +kernel
theorem dX11_odds_36 : decode cX11_odds 36 = .ok (.istore 4, 2) := by decide +kernel
theorem dX11_odds_38 : decode cX11_odds 38 = .ok (.iload 4, 2) := by decide +kernel
theorem dX11_odds_40 : decode cX11_odds 40 = .ok (.iload_n 2, 1) := by decide +kernel
theorem dX11_odds_41 : decode cX11_odds 41 = .ok (.if_icmp .ge 50, 3) := by decide +kernel
theorem dX11_odds_91 : decode cX11_odds 91 = .ok (.iload_n 3, 1) := by decide +kernel
theorem dX11_odds_92 : decode cX11_odds 92 = .ok (.ireturn, 1) := by decide +kernel
theorem dX11_odds_44 : decode cX11_odds 44 = .ok (.aload_n 0, 1) := by decide +kernel
theorem dX11_odds_45 : decode cX11_odds 45 = .ok (.getfield 85, 3) := by decide +kernel
theorem dX11_odds_48 : decode cX11_odds 48 = .ok (.aload_n 0, 1) := by decide +kernel
theorem dX11_odds_49 : decode cX11_odds 49 = .ok (.getfield 19, 3) := by decide +kernel
theorem dX11_odds_52 : decode cX11_odds 52 = .ok (.getfield 116, 3) := by decide +kernel
theorem dX11_odds_55 : decode cX11_odds 55 = .ok (.aload_n 0, 1) := by decide +kernel
theorem dX11_odds_56 : decode cX11_odds 56 = .ok (.getfield 19, 3) := by decide +kernel
theorem dX11_odds_59 : decode cX11_odds 59 = .ok (.getfield 133, 3) := by decide +kernel
theorem dX11_odds_62 : decode cX11_odds 62 = .ok (.iload_n 1, 1) := by decide +kernel
theorem dX11_odds_63 : decode cX11_odds 63 = .ok (.iload 4, 2) := by decide +kernel
theorem dX11_odds_65 : decode cX11_odds 65 = .ok (.iadd, 1) := by decide +kernel
theorem dX11_odds_66 : decode cX11_odds 66 = .ok (.invokevirtual 194, 3) := by decide +kernel
theorem dX11_odds_69 : decode cX11_odds 69 = .ok (.pop, 1) := by decide +kernel
theorem dX11_odds_70 : decode cX11_odds 70 = .ok (.aload_n 0, 1) := by decide +kernel
theorem dX11_odds_71 : decode cX11_odds 71 = .ok (.aload_n 0, 1) := by decide +kernel
theorem dX11_odds_72 : decode cX11_odds 72 = .ok (.getfield 85, 3) := by decide +kernel
theorem dX11_odds_75 : decode cX11_odds 75 = .ok (.invokevirtual 272, 3) := by decide +kernel
theorem dX11_odds_78 : decode cX11_odds 78 = .ok (.iconst (-1), 1) := by decide +kernel
theorem dX11_odds_79 : decode cX11_odds 79 = .ok (.if_icmp .eq 6, 3) := by decide +kernel
theorem dX11_odds_85 : decode cX11_odds 85 = .ok (.iinc 4 1, 3) := by decide +kernel
theorem dX11_odds_88 : decode cX11_odds 88 = .ok (.goto (-50), 3) := by decide +kernel
theorem dX11_odds_82 : decode cX11_odds 82 = .ok (.iinc 3 1, 3) := by decide +kernel
theorem dX11_odds_30 : decode cX11_odds 30 = .ok (.bipush (-6), 2) := by decide +kernel
theorem dX11_odds_32 : decode cX11_odds 32 = .ok (.ireturn, 1) := by decide +kernel
theorem dX11_carries_0 : decode cX11_carries 0 = .ok (.iload_n 1, 1) := by decide +kernel
theorem dX11_carries_1 : decode cX11_carries 1 = .ok (.invokestatic 142, 3) := by decide +kernel
theorem dX11_carries_4 : decode cX11_carries 4 = .ok (.ifCond .eq 17, 3) := by decide +kernel
theorem dX11_carries_21 : decode cX11_carries 21 = .ok (.bipush (-2), 2) := by decide +kernel
theorem dX11_carries_23 : decode cX11_carries 23 = .ok (.ireturn, 1) := by decide +kernel
theorem dX11_carries_7 : decode cX11_carries 7 = .ok (.iload_n 2, 1) := by decide +kernel
theorem dX11_carries_8 : decode cX11_carries 8 = .ok (.invokestatic 184, 3) := by decide +kernel
theorem dX11_carries_11 : decode cX11_carries 11 = .ok (.ifCond .eq 10, 3) := by decide +kernel
theorem dX11_carries_14 : decode cX11_carries 14 = .ok (.iload_n 3, 1) := by decide +kernel
theorem dX11_carries_15 : decode cX11_carries 15 = .ok (.invokestatic 276, 3) := by decide +kernel
theorem dX11_carries_18 : decode cX11_carries 18 = .ok (.ifCond .ne 6, 3) := by decide +kernel
theorem dX11_carries_24 : decode cX11_carries 24 = .ok (.aload_n 0, 1) := by decide +kernel
theorem dX11_carries_25 : decode cX11_carries 25 = .ok (.getfield 19, 3) := by decide +kernel
theorem dX11_carries_28 : decode cX11_carries 28 = .ok (.getfield 116, 3) := by decide +kernel
theorem dX11_carries_31 : decode cX11_carries 31 = .ok (.invokevirtual 187, 3) := by decide +kernel
theorem dX11_carries_34 : decode cX11_carries 34 = .ok (.ifCond .eq 18, 3) := by decide +kernel
theorem dX11_carries_52 : decode cX11_carries 52 = .ok (.bipush (-6), 2) := by decide +kernel
theorem dX11_carries_54 : decode cX11_carries 54 = .ok (.ireturn, 1) := by decide +kernel
theorem dX11_carries_37 : decode cX11_carries 37 = .ok (.aload_n 0, 1) := by decide +kernel
theorem dX11_carries_38 : decode cX11_carries 38 = .ok (.getfield 19, 3) := by decide +kernel
theorem dX11_carries_41 : decode cX11_carries 41 = .ok (.getfield 146, 3) := by decide +kernel
theorem dX11_carries_44 : decode cX11_carries 44 = .ok (.iload_n 1, 1) := by decide +kernel
theorem dX11_carries_45 : decode cX11_carries 45 = .ok (.aaload, 1) := by decide +kernel
theorem dX11_carries_46 : decode cX11_carries 46 = .ok (.getfield 232, 3) := by decide +kernel
theorem dX11_carries_49 : decode cX11_carries 49 = .ok (.ifCond .ne 6, 3) := by decide +kernel
theorem dX11_carries_55 : decode cX11_carries 55 = .ok (.aload_n 0, 1) := by decide +kernel
theorem dX11_carries_56 : decode cX11_carries 56 = .ok (.getfield 30, 3) := by decide +kernel
theorem dX11_carries_59 : decode cX11_carries 59 = .ok (.invokevirtual 279, 3) := by decide +kernel
theorem dX11_carries_62 : decode cX11_carries 62 = .ok (.ifCond .ne 6, 3) := by decide +kernel
theorem dX11_carries_68 : decode cX11_carries 68 = .ok (.aload_n 0, 1) := by decide +kernel
theorem dX11_carries_69 : decode cX11_carries 69 = .ok (.getfield 78, 3) := by decide +kernel
theorem dX11_carries_72 : decode cX11_carries 72 = .ok (.aload_n 0, 1) := by decide +kernel
theorem dX11_carries_73 : decode cX11_carries 73 = .ok (.getfield 19, 3) := by decide +kernel
theorem dX11_carries_76 : decode cX11_carries 76 = .ok (.getfield 146, 3) := by decide +kernel
theorem dX11_carries_79 : decode cX11_carries 79 = .ok (.iload_n 1, 1) := by decide +kernel
theorem dX11_carries_80 : decode cX11_carries 80 = .ok (.aaload, 1) := by decide +kernel
theorem dX11_carries_81 : decode cX11_carries 81 = .ok (.aload_n 0, 1) := by decide +kernel
theorem dX11_carries_82 : decode cX11_carries 82 = .ok (.getfield 19, 3) := by decide +kernel
theorem dX11_carries_85 : decode cX11_carries 85 = .ok (.getfield 116, 3) := by decide +kernel
theorem dX11_carries_88 : decode cX11_carries 88 = .ok (.invokevirtual 218, 3) := by decide +kernel
theorem dX11_carries_91 : decode cX11_carries 91 = .ok (.aload_n 0, 1) := by decide +kernel
theorem dX11_carries_92 : decode cX11_carries 92 = .ok (.getfield 78, 3) := by decide +kernel
theorem dX11_carries_95 : decode cX11_carries 95 = .ok (.aload_n 0, 1) := by decide +kernel
theorem dX11_carries_96 : decode cX11_carries 96 = .ok (.getfield 30, 3) := by decide +kernel
theorem dX11_carries_99 : decode cX11_carries 99 = .ok (.getfield 213, 3) := by decide +kernel
theorem dX11_carries_102 : decode cX11_carries 102 = .ok (.invokevirtual 282, 3) := by decide +kernel
theorem dX11_carries_105 : decode cX11_carries 105 = .ok (.ifCond .ne 6, 3) := by decide +kernel
theorem dX11_carries_111 : decode cX11_carries 111 = .ok (.iconst 0, 1) := by decide +kernel
theorem dX11_carries_112 : decode cX11_carries 112 = .ok (.istore 4, 2) := by decide +kernel
theorem dX11_carries_114 : decode cX11_carries 114 = .ok (.iconst 0, 1) := by decide +kernel
theorem dX11_carries_115 : decode cX11_carries 115 = .ok (.istore 5, 2) := by decide +kernel
theorem dX11_carries_117 : decode cX11_carries 117 = .ok (.iload 5, 2) := by decide +kernel
theorem dX11_carries_119 : decode cX11_carries 119 = .ok (.iload_n 3, 1) := by decide +kernel
theorem dX11_carries_120 : decode cX11_carries 120 = .ok (.if_icmp .ge 73, 3) := by decide +kernel
theorem dX11_carries_193 : decode cX11_carries 193 = .ok (.iload 4, 2) := by decide +kernel
theorem dX11_carries_195 : decode cX11_carries 195 = .ok (.ireturn, 1) := by decide +kernel
theorem dX11_carries_123 : decode cX11_carries 123 = .ok (.aload_n 0, 1) := by decide +kernel
theorem dX11_carries_124 : decode cX11_carries 124 = .ok (.getfield 85, 3) := by decide +kernel
theorem dX11_carries_127 : decode cX11_carries 127 = .ok (.aload_n 0, 1) := by decide +kernel
theorem dX11_carries_128 : decode cX11_carries 128 = .ok (.getfield 19, 3) := by decide +kernel
theorem dX11_carries_131 : decode cX11_carries 131 = .ok (.getfield 116, 3) := by decide +kernel
theorem dX11_carries_134 : decode cX11_carries 134 = .ok (.aload_n 0, 1) := by decide +kernel
theorem dX11_carries_135 : decode cX11_carries 135 = .ok (.getfield 19, 3) := by decide +kernel
theorem dX11_carries_138 : decode cX11_carries 138 = .ok (.getfield 133, 3) := by decide +kernel
theorem dX11_carries_141 : decode cX11_carries 141 = .ok (.iload_n 2, 1) := by decide +kernel
theorem dX11_carries_142 : decode cX11_carries 142 = .ok (.iload 5, 2) := by decide +kernel
theorem dX11_carries_144 : decode cX11_carries 144 = .ok (.iadd, 1) := by decide +kernel
theorem dX11_carries_145 : decode cX11_carries 145 = .ok (.invokevirtual 194, 3) := by decide +kernel
theorem dX11_carries_148 : decode cX11_carries 148 = .ok (.pop, 1) := by decide +kernel
theorem dX11_carries_149 : decode cX11_carries 149 = .ok (.aload_n 0, 1) := by decide +kernel
theorem dX11_carries_150 : decode cX11_carries 150 = .ok (.getfield 30, 3) := by decide +kernel
theorem dX11_carries_153 : decode cX11_carries 153 = .ok (.aload_n 0, 1) := by decide +kernel
theorem dX11_carries_154 : decode cX11_carries 154 = .ok (.getfield 85, 3) := by decide +kernel
theorem dX11_carries_157 : decode cX11_carries 157 = .ok (.aload_n 0, 1) := by decide +kernel
theorem dX11_carries_158 : decode cX11_carries 158 = .ok (.getfield 19, 3) := by decide +kernel
theorem dX11_carries_161 : decode cX11_carries 161 = .ok (.getfield 116, 3) := by decide +kernel
theorem dX11_carries_164 : decode cX11_carries 164 = .ok (.aload_n 0, 1) := by decide +kernel
theorem dX11_carries_165 : decode cX11_carries 165 = .ok (.getfield 78, 3) := by decide +kernel
theorem dX11_carries_168 : decode cX11_carries 168 = .ok (.invokevirtual 283, 3) := by decide +kernel
theorem dX11_carries_171 : decode cX11_carries 171 = .ok (.pop, 1) := by decide +kernel
theorem dX11_carries_172 : decode cX11_carries 172 = .ok (.aload_n 0, 1) := by decide +kernel
theorem dX11_carries_173 : decode cX11_carries 173 = .ok (.aload_n 0, 1) := by decide +kernel
theorem dX11_carries_174 : decode cX11_carries 174 = .ok (.getfield 85, 3) := by decide +kernel
theorem dX11_carries_177 : decode cX11_carries 177 = .ok (.invokevirtual 272, 3) := by decide +kernel
theorem dX11_carries_180 : decode cX11_carries 180 = .ok (.iconst (-1), 1) := by decide +kernel
theorem dX11_carries_181 : decode cX11_carries 181 = .ok (.if_icmp .eq 6, 3) := by decide +kernel
theorem dX11_carries_187 : decode cX11_carries 187 = .ok (.iinc 5 1, 3) := by decide +kernel
theorem dX11_carries_190 : decode cX11_carries 190 = .ok (.goto (-73), 3) := by decide +kernel
theorem dX11_carries_184 : decode cX11_carries 184 = .ok (.iinc 4 1, 3) := by decide +kernel
theorem dX11_carries_108 : decode cX11_carries 108 = .ok (.bipush (-3), 2) := by decide +kernel
theorem dX11_carries_110 : decode cX11_carries 110 = .ok (.ireturn, 1) := by decide +kernel
theorem dX11_carries_65 : decode cX11_carries 65 = .ok (.bipush (-5), 2) := by decide +kernel
theorem dX11_carries_67 : decode cX11_carries 67 = .ok (.ireturn, 1) := by decide +kernel
theorem dX11_changesByWay_0 : decode cX11_changesByWay 0 = .ok (.aload_n 0, 1) := by decide +kernel
theorem dX11_changesByWay_1 : decode cX11_changesByWay 1 = .ok (.getfield 78, 3) := by decide +kernel
theorem dX11_changesByWay_4 : decode cX11_changesByWay 4 = .ok (.aload_n 2, 1) := by decide +kernel
theorem dX11_changesByWay_5 : decode cX11_changesByWay 5 = .ok (.aload_n 0, 1) := by decide +kernel
theorem dX11_changesByWay_6 : decode cX11_changesByWay 6 = .ok (.getfield 19, 3) := by decide +kernel
theorem dX11_changesByWay_9 : decode cX11_changesByWay 9 = .ok (.getfield 116, 3) := by decide +kernel
theorem dX11_changesByWay_12 : decode cX11_changesByWay 12 = .ok (.invokevirtual 218, 3) := by decide +kernel
theorem dX11_changesByWay_15 : decode cX11_changesByWay 15 = .ok (.aload_n 2, 1) := by decide +kernel
theorem dX11_changesByWay_16 : decode cX11_changesByWay 16 = .ok (.getfield 232, 3) := by decide +kernel
theorem dX11_changesByWay_19 : decode cX11_changesByWay 19 = .ok (.ifCond .eq 20, 3) := by decide +kernel
theorem dX11_changesByWay_39 : decode cX11_changesByWay 39 = .ok (.iconst (-1), 1) := by decide +kernel
theorem dX11_changesByWay_40 : decode cX11_changesByWay 40 = .ok (.ireturn, 1) := by decide +kernel
theorem dX11_changesByWay_22 : decode cX11_changesByWay 22 = .ok (.aload_n 0, 1) := by decide +kernel
theorem dX11_changesByWay_23 : decode cX11_changesByWay 23 = .ok (.getfield 78, 3) := by decide +kernel
theorem dX11_changesByWay_26 : decode cX11_changesByWay 26 = .ok (.aload_n 0, 1) := by decide +kernel
theorem dX11_changesByWay_27 : decode cX11_changesByWay 27 = .ok (.getfield 30, 3) := by decide +kernel
theorem dX11_changesByWay_30 : decode cX11_changesByWay 30 = .ok (.getfield 213, 3) := by decide +kernel
theorem dX11_changesByWay_33 : decode cX11_changesByWay 33 = .ok (.invokevirtual 282, 3) := by decide +kernel
theorem dX11_changesByWay_36 : decode cX11_changesByWay 36 = .ok (.ifCond .ne 5, 3) := by decide +kernel
theorem dX11_changesByWay_41 : decode cX11_changesByWay 41 = .ok (.aload_n 0, 1) := by decide +kernel
theorem dX11_changesByWay_42 : decode cX11_changesByWay 42 = .ok (.getfield 85, 3) := by decide +kernel
theorem dX11_changesByWay_45 : decode cX11_changesByWay 45 = .ok (.aload_n 1, 1) := by decide +kernel
theorem dX11_changesByWay_46 : decode cX11_changesByWay 46 = .ok (.invokevirtual 318, 3) := by decide +kernel
theorem dX11_changesByWay_49 : decode cX11_changesByWay 49 = .ok (.aload_n 0, 1) := by decide +kernel
theorem dX11_changesByWay_50 : decode cX11_changesByWay 50 = .ok (.getfield 30, 3) := by decide +kernel
theorem dX11_changesByWay_53 : decode cX11_changesByWay 53 = .ok (.aload_n 0, 1) := by decide +kernel
theorem dX11_changesByWay_54 : decode cX11_changesByWay 54 = .ok (.getfield 85, 3) := by decide +kernel
theorem dX11_changesByWay_57 : decode cX11_changesByWay 57 = .ok (.aload_n 0, 1) := by decide +kernel
theorem dX11_changesByWay_58 : decode cX11_changesByWay 58 = .ok (.getfield 19, 3) := by decide +kernel
theorem dX11_changesByWay_61 : decode cX11_changesByWay 61 = .ok (.getfield 116, 3) := by decide +kernel
theorem dX11_changesByWay_64 : decode cX11_changesByWay 64 = .ok (.aload_n 0, 1) := by decide +kernel
theorem dX11_changesByWay_65 : decode cX11_changesByWay 65 = .ok (.getfield 78, 3) := by decide +kernel
theorem dX11_changesByWay_68 : decode cX11_changesByWay 68 = .ok (.invokevirtual 283, 3) := by decide +kernel
theorem dX11_changesByWay_71 : decode cX11_changesByWay 71 = .ok (.istore_n 3, 1) := by decide +kernel
theorem dX11_changesByWay_72 : decode cX11_changesByWay 72 = .ok (.aload_n 0, 1) := by decide +kernel
theorem dX11_changesByWay_73 : decode cX11_changesByWay 73 = .ok (.getfield 92, 3) := by decide +kernel
theorem dX11_changesByWay_76 : decode cX11_changesByWay 76 = .ok (.aload_n 0, 1) := by decide +kernel
theorem dX11_changesByWay_77 : decode cX11_changesByWay 77 = .ok (.getfield 19, 3) := by decide +kernel
theorem dX11_changesByWay_80 : decode cX11_changesByWay 80 = .ok (.getfield 116, 3) := by decide +kernel
theorem dX11_changesByWay_83 : decode cX11_changesByWay 83 = .ok (.aload_n 0, 1) := by decide +kernel
theorem dX11_changesByWay_84 : decode cX11_changesByWay 84 = .ok (.getfield 85, 3) := by decide +kernel
theorem dX11_changesByWay_87 : decode cX11_changesByWay 87 = .ok (.invokevirtual 265, 3) := by decide +kernel
theorem dX11_changesByWay_90 : decode cX11_changesByWay 90 = .ok (.aload_n 0, 1) := by decide +kernel
theorem dX11_changesByWay_91 : decode cX11_changesByWay 91 = .ok (.getfield 19, 3) := by decide +kernel
theorem dX11_changesByWay_94 : decode cX11_changesByWay 94 = .ok (.getfield 158, 3) := by decide +kernel
theorem dX11_changesByWay_97 : decode cX11_changesByWay 97 = .ok (.aload_n 0, 1) := by decide +kernel
theorem dX11_changesByWay_98 : decode cX11_changesByWay 98 = .ok (.getfield 92, 3) := by decide +kernel
theorem dX11_changesByWay_101 : decode cX11_changesByWay 101 = .ok (.invokevirtual 425, 3) := by decide +kernel
theorem dX11_changesByWay_104 : decode cX11_changesByWay 104 = .ok (.iconst (-1), 1) := by decide +kernel
theorem dX11_changesByWay_105 : decode cX11_changesByWay 105 = .ok (.if_icmp .eq 5, 3) := by decide +kernel
theorem dX11_changesByWay_110 : decode cX11_changesByWay 110 = .ok (.aload_n 0, 1) := by decide +kernel
theorem dX11_changesByWay_111 : decode cX11_changesByWay 111 = .ok (.getfield 19, 3) := by decide +kernel
theorem dX11_changesByWay_114 : decode cX11_changesByWay 114 = .ok (.getfield 168, 3) := by decide +kernel
theorem dX11_changesByWay_117 : decode cX11_changesByWay 117 = .ok (.aload_n 0, 1) := by decide +kernel
theorem dX11_changesByWay_118 : decode cX11_changesByWay 118 = .ok (.getfield 85, 3) := by decide +kernel
theorem dX11_changesByWay_121 : decode cX11_changesByWay 121 = .ok (.aload_n 0, 1) := by decide +kernel
theorem dX11_changesByWay_122 : decode cX11_changesByWay 122 = .ok (.getfield 19, 3) := by decide +kernel
theorem dX11_changesByWay_125 : decode cX11_changesByWay 125 = .ok (.getfield 116, 3) := by decide +kernel
theorem dX11_changesByWay_128 : decode cX11_changesByWay 128 = .ok (.invokevirtual 290, 3) := by decide +kernel
theorem dX11_changesByWay_131 : decode cX11_changesByWay 131 = .ok (.aload_n 0, 1) := by decide +kernel
theorem dX11_changesByWay_132 : decode cX11_changesByWay 132 = .ok (.getfield 72, 3) := by decide +kernel
theorem dX11_changesByWay_135 : decode cX11_changesByWay 135 = .ok (.aload_n 0, 1) := by decide +kernel
theorem dX11_changesByWay_136 : decode cX11_changesByWay 136 = .ok (.getfield 85, 3) := by decide +kernel
theorem dX11_changesByWay_139 : decode cX11_changesByWay 139 = .ok (.aload_n 0, 1) := by decide +kernel
theorem dX11_changesByWay_140 : decode cX11_changesByWay 140 = .ok (.getfield 78, 3) := by decide +kernel
theorem dX11_changesByWay_143 : decode cX11_changesByWay 143 = .ok (.invokevirtual 421, 3) := by decide +kernel
theorem dX11_changesByWay_146 : decode cX11_changesByWay 146 = .ok (.ifCond .eq 21, 3) := by decide +kernel
theorem dX11_changesByWay_167 : decode cX11_changesByWay 167 = .ok (.iconst (-1), 1) := by decide +kernel
theorem dX11_changesByWay_168 : decode cX11_changesByWay 168 = .ok (.ireturn, 1) := by decide +kernel
theorem dX11_changesByWay_149 : decode cX11_changesByWay 149 = .ok (.aload_n 0, 1) := by decide +kernel
theorem dX11_changesByWay_150 : decode cX11_changesByWay 150 = .ok (.getfield 72, 3) := by decide +kernel
theorem dX11_changesByWay_153 : decode cX11_changesByWay 153 = .ok (.aload_n 0, 1) := by decide +kernel
theorem dX11_changesByWay_154 : decode cX11_changesByWay 154 = .ok (.getfield 30, 3) := by decide +kernel
theorem dX11_changesByWay_157 : decode cX11_changesByWay 157 = .ok (.invokevirtual 428, 3) := by decide +kernel
theorem dX11_changesByWay_160 : decode cX11_changesByWay 160 = .ok (.ifCond .eq 7, 3) := by decide +kernel
theorem dX11_changesByWay_163 : decode cX11_changesByWay 163 = .ok (.iload_n 3, 1) := by decide +kernel
theorem dX11_changesByWay_164 : decode cX11_changesByWay 164 = .ok (.goto 4, 3) := by decide +kernel
theorem dX11_changesByWay_108 : decode cX11_changesByWay 108 = .ok (.iconst (-1), 1) := by decide +kernel
theorem dX11_changesByWay_109 : decode cX11_changesByWay 109 = .ok (.ireturn, 1) := by decide +kernel
theorem dX11_best_0 : decode cX11_best 0 = .ok (.aload_n 0, 1) := by decide +kernel
theorem dX11_best_1 : decode cX11_best 1 = .ok (.iload_n 1, 1) := by decide +kernel
theorem dX11_best_2 : decode cX11_best 2 = .ok (.invokevirtual 229, 3) := by decide +kernel
theorem dX11_best_5 : decode cX11_best 5 = .ok (.istore_n 2, 1) := by decide +kernel
theorem dX11_best_6 : decode cX11_best 6 = .ok (.iload_n 2, 1) := by decide +kernel
theorem dX11_best_7 : decode cX11_best 7 = .ok (.ifCond .eq 5, 3) := by decide +kernel
theorem dX11_best_12 : decode cX11_best 12 = .ok (.aload_n 0, 1) := by decide +kernel
theorem dX11_best_13 : decode cX11_best 13 = .ok (.getfield 30, 3) := by decide +kernel
theorem dX11_best_16 : decode cX11_best 16 = .ok (.invokevirtual 279, 3) := by decide +kernel
theorem dX11_best_19 : decode cX11_best 19 = .ok (.ifCond .ne 6, 3) := by decide +kernel
theorem dX11_best_25 : decode cX11_best 25 = .ok (.iconst (-1), 1) := by decide +kernel
theorem dX11_best_26 : decode cX11_best 26 = .ok (.istore_n 3, 1) := by decide +kernel
theorem dX11_best_27 : decode cX11_best 27 = .ok (.sipush 257, 3) := by decide +kernel
theorem dX11_best_30 : decode cX11_best 30 = .ok (.istore 4, 2) := by decide +kernel
theorem dX11_best_32 : decode cX11_best 32 = .ok (.iconst 0, 1) := by decide +kernel
theorem dX11_best_33 : decode cX11_best 33 = .ok (.istore 5, 2) := by decide +kernel
theorem dX11_best_35 : decode cX11_best 35 = .ok (.iload 5, 2) := by decide +kernel
theorem dX11_best_37 : decode cX11_best 37 = .ok (.bipush 6, 2) := by decide +kernel
theorem dX11_best_39 : decode cX11_best 39 = .ok (.if_icmp .ge 54, 3) := by decide +kernel
theorem dX11_best_93 : decode cX11_best 93 = .ok (.iload_n 3, 1) := by decide +kernel
theorem dX11_best_94 : decode cX11_best 94 = .ok (.ireturn, 1) := by decide +kernel
theorem dX11_best_42 : decode cX11_best 42 = .ok (.aload_n 0, 1) := by decide +kernel
theorem dX11_best_43 : decode cX11_best 43 = .ok (.aload_n 0, 1) := by decide +kernel
theorem dX11_best_44 : decode cX11_best 44 = .ok (.getfield 19, 3) := by decide +kernel
theorem dX11_best_47 : decode cX11_best 47 = .ok (.getfield 190, 3) := by decide +kernel
theorem dX11_best_50 : decode cX11_best 50 = .ok (.iload_n 1, 1) := by decide +kernel
theorem dX11_best_51 : decode cX11_best 51 = .ok (.aaload, 1) := by decide +kernel
theorem dX11_best_52 : decode cX11_best 52 = .ok (.aload_n 0, 1) := by decide +kernel
theorem dX11_best_53 : decode cX11_best 53 = .ok (.getfield 19, 3) := by decide +kernel
theorem dX11_best_56 : decode cX11_best 56 = .ok (.getfield 146, 3) := by decide +kernel
theorem dX11_best_59 : decode cX11_best 59 = .ok (.iload 5, 2) := by decide +kernel
theorem dX11_best_61 : decode cX11_best 61 = .ok (.aaload, 1) := by decide +kernel
theorem dX11_best_62 : decode cX11_best 62 = .ok (.invokevirtual 287, 3) := by decide +kernel
theorem dX11_best_65 : decode cX11_best 65 = .ok (.istore 6, 2) := by decide +kernel
theorem dX11_best_67 : decode cX11_best 67 = .ok (.iload 6, 2) := by decide +kernel
theorem dX11_best_69 : decode cX11_best 69 = .ok (.iconst (-1), 1) := by decide +kernel
theorem dX11_best_70 : decode cX11_best 70 = .ok (.if_icmp .eq 17, 3) := by decide +kernel
theorem dX11_best_87 : decode cX11_best 87 = .ok (.iinc 5 1, 3) := by decide +kernel
theorem dX11_best_90 : decode cX11_best 90 = .ok (.goto (-55), 3) := by decide +kernel
theorem dX11_best_73 : decode cX11_best 73 = .ok (.iload 6, 2) := by decide +kernel
theorem dX11_best_75 : decode cX11_best 75 = .ok (.iload 4, 2) := by decide +kernel
theorem dX11_best_77 : decode cX11_best 77 = .ok (.if_icmp .ge 10, 3) := by decide +kernel
theorem dX11_best_80 : decode cX11_best 80 = .ok (.iload 5, 2) := by decide +kernel
theorem dX11_best_82 : decode cX11_best 82 = .ok (.istore_n 3, 1) := by decide +kernel
theorem dX11_best_83 : decode cX11_best 83 = .ok (.iload 6, 2) := by decide +kernel
theorem dX11_best_85 : decode cX11_best 85 = .ok (.istore 4, 2) := by decide +kernel
theorem dX11_best_22 : decode cX11_best 22 = .ok (.bipush (-5), 2) := by decide +kernel
theorem dX11_best_24 : decode cX11_best 24 = .ok (.ireturn, 1) := by decide +kernel
theorem dX11_best_10 : decode cX11_best 10 = .ok (.iload_n 2, 1) := by decide +kernel
theorem dX11_best_11 : decode cX11_best 11 = .ok (.ireturn, 1) := by decide +kernel
theorem dX11_lose_0 : decode cX11_lose 0 = .ok (.aload_n 0, 1) := by decide +kernel
theorem dX11_lose_1 : decode cX11_lose 1 = .ok (.iload_n 1, 1) := by decide +kernel
theorem dX11_lose_2 : decode cX11_lose 2 = .ok (.invokevirtual 229, 3) := by decide +kernel
theorem dX11_lose_5 : decode cX11_lose 5 = .ok (.istore_n 2, 1) := by decide +kernel
theorem dX11_lose_6 : decode cX11_lose 6 = .ok (.iload_n 2, 1) := by decide +kernel
theorem dX11_lose_7 : decode cX11_lose 7 = .ok (.ifCond .eq 5, 3) := by decide +kernel
theorem dX11_lose_12 : decode cX11_lose 12 = .ok (.aload_n 0, 1) := by decide +kernel
theorem dX11_lose_13 : decode cX11_lose 13 = .ok (.getfield 19, 3) := by decide +kernel
theorem dX11_lose_16 : decode cX11_lose 16 = .ok (.getfield 168, 3) := by decide +kernel
theorem dX11_lose_19 : decode cX11_lose 19 = .ok (.aload_n 0, 1) := by decide +kernel
theorem dX11_lose_20 : decode cX11_lose 20 = .ok (.getfield 19, 3) := by decide +kernel
theorem dX11_lose_23 : decode cX11_lose 23 = .ok (.getfield 190, 3) := by decide +kernel
theorem dX11_lose_26 : decode cX11_lose 26 = .ok (.iload_n 1, 1) := by decide +kernel
theorem dX11_lose_27 : decode cX11_lose 27 = .ok (.aaload, 1) := by decide +kernel
theorem dX11_lose_28 : decode cX11_lose 28 = .ok (.aload_n 0, 1) := by decide +kernel
theorem dX11_lose_29 : decode cX11_lose 29 = .ok (.getfield 19, 3) := by decide +kernel
theorem dX11_lose_32 : decode cX11_lose 32 = .ok (.getfield 116, 3) := by decide +kernel
theorem dX11_lose_35 : decode cX11_lose 35 = .ok (.invokevirtual 290, 3) := by decide +kernel
theorem dX11_lose_38 : decode cX11_lose 38 = .ok (.aload_n 0, 1) := by decide +kernel
theorem dX11_lose_39 : decode cX11_lose 39 = .ok (.getfield 19, 3) := by decide +kernel
theorem dX11_lose_42 : decode cX11_lose 42 = .ok (.getfield 190, 3) := by decide +kernel
theorem dX11_lose_45 : decode cX11_lose 45 = .ok (.iload_n 1, 1) := by decide +kernel
theorem dX11_lose_46 : decode cX11_lose 46 = .ok (.aaload, 1) := by decide +kernel
theorem dX11_lose_47 : decode cX11_lose 47 = .ok (.aload_n 0, 1) := by decide +kernel
theorem dX11_lose_48 : decode cX11_lose 48 = .ok (.getfield 19, 3) := by decide +kernel
theorem dX11_lose_51 : decode cX11_lose 51 = .ok (.getfield 116, 3) := by decide +kernel
theorem dX11_lose_54 : decode cX11_lose 54 = .ok (.invokevirtual 294, 3) := by decide +kernel
theorem dX11_lose_57 : decode cX11_lose 57 = .ok (.ireturn, 1) := by decide +kernel
theorem dX11_lose_10 : decode cX11_lose 10 = .ok (.iload_n 2, 1) := by decide +kernel
theorem dX11_lose_11 : decode cX11_lose 11 = .ok (.ireturn, 1) := by decide +kernel
theorem dX11_refusalOfCloths_0 : decode cX11_refusalOfCloths 0 = .ok (.iload_n 1, 1) := by decide +kernel
theorem dX11_refusalOfCloths_1 : decode cX11_refusalOfCloths 1 = .ok (.invokestatic 181, 3) := by decide +kernel
theorem dX11_refusalOfCloths_4 : decode cX11_refusalOfCloths 4 = .ok (.ifCond .eq 10, 3) := by decide +kernel
theorem dX11_refusalOfCloths_14 : decode cX11_refusalOfCloths 14 = .ok (.bipush (-2), 2) := by decide +kernel
theorem dX11_refusalOfCloths_16 : decode cX11_refusalOfCloths 16 = .ok (.ireturn, 1) := by decide +kernel
theorem dX11_refusalOfCloths_7 : decode cX11_refusalOfCloths 7 = .ok (.iload_n 2, 1) := by decide +kernel
theorem dX11_refusalOfCloths_8 : decode cX11_refusalOfCloths 8 = .ok (.invokestatic 181, 3) := by decide +kernel
theorem dX11_refusalOfCloths_11 : decode cX11_refusalOfCloths 11 = .ok (.ifCond .ne 6, 3) := by decide +kernel
theorem dX11_refusalOfCloths_17 : decode cX11_refusalOfCloths 17 = .ok (.aload_n 0, 1) := by decide +kernel
theorem dX11_refusalOfCloths_18 : decode cX11_refusalOfCloths 18 = .ok (.iload_n 1, 1) := by decide +kernel
theorem dX11_refusalOfCloths_19 : decode cX11_refusalOfCloths 19 = .ok (.invokevirtual 239, 3) := by decide +kernel
theorem dX11_refusalOfCloths_22 : decode cX11_refusalOfCloths 22 = .ok (.ifCond .eq 15, 3) := by decide +kernel
theorem dX11_refusalOfCloths_37 : decode cX11_refusalOfCloths 37 = .ok (.bipush (-6), 2) := by decide +kernel
theorem dX11_refusalOfCloths_39 : decode cX11_refusalOfCloths 39 = .ok (.ireturn, 1) := by decide +kernel
theorem dX11_refusalOfCloths_25 : decode cX11_refusalOfCloths 25 = .ok (.aload_n 0, 1) := by decide +kernel
theorem dX11_refusalOfCloths_26 : decode cX11_refusalOfCloths 26 = .ok (.iload_n 2, 1) := by decide +kernel
theorem dX11_refusalOfCloths_27 : decode cX11_refusalOfCloths 27 = .ok (.invokevirtual 239, 3) := by decide +kernel
theorem dX11_refusalOfCloths_30 : decode cX11_refusalOfCloths 30 = .ok (.ifCond .eq 7, 3) := by decide +kernel
theorem dX11_refusalOfCloths_33 : decode cX11_refusalOfCloths 33 = .ok (.iconst 0, 1) := by decide +kernel
theorem dX11_refusalOfCloths_34 : decode cX11_refusalOfCloths 34 = .ok (.goto 5, 3) := by decide +kernel
theorem dX11_alike_0 : decode cX11_alike 0 = .ok (.aload_n 0, 1) := by decide +kernel
theorem dX11_alike_1 : decode cX11_alike 1 = .ok (.iload_n 1, 1) := by decide +kernel
theorem dX11_alike_2 : decode cX11_alike 2 = .ok (.iload_n 2, 1) := by decide +kernel
theorem dX11_alike_3 : decode cX11_alike 3 = .ok (.invokevirtual 298, 3) := by decide +kernel
theorem dX11_alike_6 : decode cX11_alike 6 = .ok (.istore_n 3, 1) := by decide +kernel
theorem dX11_alike_7 : decode cX11_alike 7 = .ok (.iload_n 3, 1) := by decide +kernel
theorem dX11_alike_8 : decode cX11_alike 8 = .ok (.ifCond .eq 5, 3) := by decide +kernel
theorem dX11_alike_13 : decode cX11_alike 13 = .ok (.iconst 0, 1) := by decide +kernel
theorem dX11_alike_14 : decode cX11_alike 14 = .ok (.istore 4, 2) := by decide +kernel
theorem dX11_alike_16 : decode cX11_alike 16 = .ok (.iconst 0, 1) := by decide +kernel
theorem dX11_alike_17 : decode cX11_alike 17 = .ok (.istore 5, 2) := by decide +kernel
theorem dX11_alike_19 : decode cX11_alike 19 = .ok (.iload 5, 2) := by decide +kernel
theorem dX11_alike_21 : decode cX11_alike 21 = .ok (.aload_n 0, 1) := by decide +kernel
theorem dX11_alike_22 : decode cX11_alike 22 = .ok (.getfield 19, 3) := by decide +kernel
theorem dX11_alike_25 : decode cX11_alike 25 = .ok (.getfield 116, 3) := by decide +kernel
theorem dX11_alike_28 : decode cX11_alike 28 = .ok (.getfield 126, 3) := by decide +kernel
theorem dX11_alike_31 : decode cX11_alike 31 = .ok (.if_icmp .ge 67, 3) := by decide +kernel
theorem dX11_alike_98 : decode cX11_alike 98 = .ok (.iload 4, 2) := by decide +kernel
theorem dX11_alike_100 : decode cX11_alike 100 = .ok (.ireturn, 1) := by decide +kernel
theorem dX11_alike_34 : decode cX11_alike 34 = .ok (.aload_n 0, 1) := by decide +kernel
theorem dX11_alike_35 : decode cX11_alike 35 = .ok (.getfield 19, 3) := by decide +kernel
theorem dX11_alike_38 : decode cX11_alike 38 = .ok (.getfield 116, 3) := by decide +kernel
theorem dX11_alike_41 : decode cX11_alike 41 = .ok (.iload 5, 2) := by decide +kernel
theorem dX11_alike_43 : decode cX11_alike 43 = .ok (.invokevirtual 301, 3) := by decide +kernel
theorem dX11_alike_46 : decode cX11_alike 46 = .ok (.istore 6, 2) := by decide +kernel
theorem dX11_alike_48 : decode cX11_alike 48 = .ok (.aload_n 0, 1) := by decide +kernel
theorem dX11_alike_49 : decode cX11_alike 49 = .ok (.getfield 19, 3) := by decide +kernel
theorem dX11_alike_52 : decode cX11_alike 52 = .ok (.getfield 190, 3) := by decide +kernel
theorem dX11_alike_55 : decode cX11_alike 55 = .ok (.iload_n 1, 1) := by decide +kernel
theorem dX11_alike_56 : decode cX11_alike 56 = .ok (.aaload, 1) := by decide +kernel
theorem dX11_alike_57 : decode cX11_alike 57 = .ok (.iload 6, 2) := by decide +kernel
theorem dX11_alike_59 : decode cX11_alike 59 = .ok (.invokevirtual 242, 3) := by decide +kernel
theorem dX11_alike_62 : decode cX11_alike 62 = .ok (.istore 7, 2) := by decide +kernel
theorem dX11_alike_64 : decode cX11_alike 64 = .ok (.iload 7, 2) := by decide +kernel
theorem dX11_alike_66 : decode cX11_alike 66 = .ok (.iconst 4, 1) := by decide +kernel
theorem dX11_alike_67 : decode cX11_alike 67 = .ok (.if_icmp .eq 25, 3) := by decide +kernel
theorem dX11_alike_92 : decode cX11_alike 92 = .ok (.iinc 5 1, 3) := by decide +kernel
theorem dX11_alike_95 : decode cX11_alike 95 = .ok (.goto (-76), 3) := by decide +kernel
theorem dX11_alike_70 : decode cX11_alike 70 = .ok (.iload 7, 2) := by decide +kernel
theorem dX11_alike_72 : decode cX11_alike 72 = .ok (.aload_n 0, 1) := by decide +kernel
theorem dX11_alike_73 : decode cX11_alike 73 = .ok (.getfield 19, 3) := by decide +kernel
theorem dX11_alike_76 : decode cX11_alike 76 = .ok (.getfield 190, 3) := by decide +kernel
theorem dX11_alike_79 : decode cX11_alike 79 = .ok (.iload_n 2, 1) := by decide +kernel
theorem dX11_alike_80 : decode cX11_alike 80 = .ok (.aaload, 1) := by decide +kernel
theorem dX11_alike_81 : decode cX11_alike 81 = .ok (.iload 6, 2) := by decide +kernel
theorem dX11_alike_83 : decode cX11_alike 83 = .ok (.invokevirtual 242, 3) := by decide +kernel
theorem dX11_alike_86 : decode cX11_alike 86 = .ok (.if_icmp .ne 6, 3) := by decide +kernel
theorem dX11_alike_89 : decode cX11_alike 89 = .ok (.iinc 4 1, 3) := by decide +kernel
theorem dX11_alike_11 : decode cX11_alike 11 = .ok (.iload_n 3, 1) := by decide +kernel
theorem dX11_alike_12 : decode cX11_alike 12 = .ok (.ireturn, 1) := by decide +kernel
theorem dX11_same_0 : decode cX11_same 0 = .ok (.iload_n 1, 1) := by decide +kernel
theorem dX11_same_1 : decode cX11_same 1 = .ok (.invokestatic 181, 3) := by decide +kernel
theorem dX11_same_4 : decode cX11_same 4 = .ok (.ifCond .eq 17, 3) := by decide +kernel
theorem dX11_same_21 : decode cX11_same 21 = .ok (.bipush (-2), 2) := by decide +kernel
theorem dX11_same_23 : decode cX11_same 23 = .ok (.ireturn, 1) := by decide +kernel
theorem dX11_same_7 : decode cX11_same 7 = .ok (.iload_n 2, 1) := by decide +kernel
theorem dX11_same_8 : decode cX11_same 8 = .ok (.invokestatic 181, 3) := by decide +kernel
theorem dX11_same_11 : decode cX11_same 11 = .ok (.ifCond .eq 10, 3) := by decide +kernel
theorem dX11_same_14 : decode cX11_same 14 = .ok (.iload_n 3, 1) := by decide +kernel
theorem dX11_same_15 : decode cX11_same 15 = .ok (.invokestatic 142, 3) := by decide +kernel
theorem dX11_same_18 : decode cX11_same 18 = .ok (.ifCond .ne 6, 3) := by decide +kernel
theorem dX11_same_24 : decode cX11_same 24 = .ok (.aload_n 0, 1) := by decide +kernel
theorem dX11_same_25 : decode cX11_same 25 = .ok (.iload_n 1, 1) := by decide +kernel
theorem dX11_same_26 : decode cX11_same 26 = .ok (.invokevirtual 239, 3) := by decide +kernel
theorem dX11_same_29 : decode cX11_same 29 = .ok (.ifCond .eq 26, 3) := by decide +kernel
theorem dX11_same_55 : decode cX11_same 55 = .ok (.bipush (-6), 2) := by decide +kernel
theorem dX11_same_57 : decode cX11_same 57 = .ok (.ireturn, 1) := by decide +kernel
theorem dX11_same_32 : decode cX11_same 32 = .ok (.aload_n 0, 1) := by decide +kernel
theorem dX11_same_33 : decode cX11_same 33 = .ok (.iload_n 2, 1) := by decide +kernel
theorem dX11_same_34 : decode cX11_same 34 = .ok (.invokevirtual 239, 3) := by decide +kernel
theorem dX11_same_37 : decode cX11_same 37 = .ok (.ifCond .eq 18, 3) := by decide +kernel
theorem dX11_same_40 : decode cX11_same 40 = .ok (.aload_n 0, 1) := by decide +kernel
theorem dX11_same_41 : decode cX11_same 41 = .ok (.getfield 19, 3) := by decide +kernel
theorem dX11_same_44 : decode cX11_same 44 = .ok (.getfield 146, 3) := by decide +kernel
theorem dX11_same_47 : decode cX11_same 47 = .ok (.iload_n 3, 1) := by decide +kernel
theorem dX11_same_48 : decode cX11_same 48 = .ok (.aaload, 1) := by decide +kernel
theorem dX11_same_49 : decode cX11_same 49 = .ok (.getfield 232, 3) := by decide +kernel
theorem dX11_same_52 : decode cX11_same 52 = .ok (.ifCond .ne 6, 3) := by decide +kernel
theorem dX11_same_58 : decode cX11_same 58 = .ok (.aload_n 0, 1) := by decide +kernel
theorem dX11_same_59 : decode cX11_same 59 = .ok (.getfield 78, 3) := by decide +kernel
theorem dX11_same_62 : decode cX11_same 62 = .ok (.aload_n 0, 1) := by decide +kernel
theorem dX11_same_63 : decode cX11_same 63 = .ok (.getfield 19, 3) := by decide +kernel
theorem dX11_same_66 : decode cX11_same 66 = .ok (.getfield 146, 3) := by decide +kernel
theorem dX11_same_69 : decode cX11_same 69 = .ok (.iload_n 3, 1) := by decide +kernel
theorem dX11_same_70 : decode cX11_same 70 = .ok (.aaload, 1) := by decide +kernel
theorem dX11_same_71 : decode cX11_same 71 = .ok (.aload_n 0, 1) := by decide +kernel
theorem dX11_same_72 : decode cX11_same 72 = .ok (.getfield 19, 3) := by decide +kernel
theorem dX11_same_75 : decode cX11_same 75 = .ok (.getfield 116, 3) := by decide +kernel
theorem dX11_same_78 : decode cX11_same 78 = .ok (.invokevirtual 218, 3) := by decide +kernel
theorem dX11_same_81 : decode cX11_same 81 = .ok (.iconst 0, 1) := by decide +kernel
theorem dX11_same_82 : decode cX11_same 82 = .ok (.istore 4, 2) := by decide +kernel
theorem dX11_same_84 : decode cX11_same 84 = .ok (.iconst 0, 1) := by decide +kernel
theorem dX11_same_85 : decode cX11_same 85 = .ok (.istore 5, 2) := by decide +kernel
theorem dX11_same_87 : decode cX11_same 87 = .ok (.iload 5, 2) := by decide +kernel
theorem dX11_same_89 : decode cX11_same 89 = .ok (.aload_n 0, 1) := by decide +kernel
theorem dX11_same_90 : decode cX11_same 90 = .ok (.getfield 78, 3) := by decide +kernel
theorem dX11_same_93 : decode cX11_same 93 = .ok (.getfield 222, 3) := by decide +kernel
theorem dX11_same_96 : decode cX11_same 96 = .ok (.if_icmp .ge 61, 3) := by decide +kernel
theorem dX11_same_157 : decode cX11_same 157 = .ok (.iload 4, 2) := by decide +kernel
theorem dX11_same_159 : decode cX11_same 159 = .ok (.ireturn, 1) := by decide +kernel
theorem dX11_same_99 : decode cX11_same 99 = .ok (.aload_n 0, 1) := by decide +kernel
theorem dX11_same_100 : decode cX11_same 100 = .ok (.getfield 78, 3) := by decide +kernel
theorem dX11_same_103 : decode cX11_same 103 = .ok (.aload_n 0, 1) := by decide +kernel
theorem dX11_same_104 : decode cX11_same 104 = .ok (.getfield 19, 3) := by decide +kernel
theorem dX11_same_107 : decode cX11_same 107 = .ok (.getfield 190, 3) := by decide +kernel
theorem dX11_same_110 : decode cX11_same 110 = .ok (.iload_n 1, 1) := by decide +kernel
theorem dX11_same_111 : decode cX11_same 111 = .ok (.aaload, 1) := by decide +kernel
theorem dX11_same_112 : decode cX11_same 112 = .ok (.iload 5, 2) := by decide +kernel
theorem dX11_same_114 : decode cX11_same 114 = .ok (.invokevirtual 225, 3) := by decide +kernel
theorem dX11_same_117 : decode cX11_same 117 = .ok (.istore 6, 2) := by decide +kernel
theorem dX11_same_119 : decode cX11_same 119 = .ok (.iload 6, 2) := by decide +kernel
theorem dX11_same_121 : decode cX11_same 121 = .ok (.iconst 2, 1) := by decide +kernel
theorem dX11_same_122 : decode cX11_same 122 = .ok (.if_icmp .eq 29, 3) := by decide +kernel
theorem dX11_same_151 : decode cX11_same 151 = .ok (.iinc 5 1, 3) := by decide +kernel
theorem dX11_same_154 : decode cX11_same 154 = .ok (.goto (-67), 3) := by decide +kernel
theorem dX11_same_125 : decode cX11_same 125 = .ok (.iload 6, 2) := by decide +kernel
theorem dX11_same_127 : decode cX11_same 127 = .ok (.aload_n 0, 1) := by decide +kernel
theorem dX11_same_128 : decode cX11_same 128 = .ok (.getfield 78, 3) := by decide +kernel
theorem dX11_same_131 : decode cX11_same 131 = .ok (.aload_n 0, 1) := by decide +kernel
theorem dX11_same_132 : decode cX11_same 132 = .ok (.getfield 19, 3) := by decide +kernel
theorem dX11_same_135 : decode cX11_same 135 = .ok (.getfield 190, 3) := by decide +kernel
theorem dX11_same_138 : decode cX11_same 138 = .ok (.iload_n 2, 1) := by decide +kernel
theorem dX11_same_139 : decode cX11_same 139 = .ok (.aaload, 1) := by decide +kernel
theorem dX11_same_140 : decode cX11_same 140 = .ok (.iload 5, 2) := by decide +kernel
theorem dX11_same_142 : decode cX11_same 142 = .ok (.invokevirtual 225, 3) := by decide +kernel
theorem dX11_same_145 : decode cX11_same 145 = .ok (.if_icmp .ne 6, 3) := by decide +kernel
theorem dX11_same_148 : decode cX11_same 148 = .ok (.iinc 4 1, 3) := by decide +kernel
theorem dX11_ball_0 : decode cX11_ball 0 = .ok (.aload_n 0, 1) := by decide +kernel
theorem dX11_ball_1 : decode cX11_ball 1 = .ok (.iload_n 1, 1) := by decide +kernel
theorem dX11_ball_2 : decode cX11_ball 2 = .ok (.invokevirtual 229, 3) := by decide +kernel
theorem dX11_ball_5 : decode cX11_ball 5 = .ok (.istore_n 3, 1) := by decide +kernel
theorem dX11_ball_6 : decode cX11_ball 6 = .ok (.iload_n 3, 1) := by decide +kernel
theorem dX11_ball_7 : decode cX11_ball 7 = .ok (.ifCond .eq 5, 3) := by decide +kernel
theorem dX11_ball_12 : decode cX11_ball 12 = .ok (.iconst 0, 1) := by decide +kernel
theorem dX11_ball_13 : decode cX11_ball 13 = .ok (.istore 4, 2) := by decide +kernel
theorem dX11_ball_15 : decode cX11_ball 15 = .ok (.aload_n 0, 1) := by decide +kernel
theorem dX11_ball_16 : decode cX11_ball 16 = .ok (.getfield 19, 3) := by decide +kernel
theorem dX11_ball_19 : decode cX11_ball 19 = .ok (.getfield 116, 3) := by decide +kernel
theorem dX11_ball_22 : decode cX11_ball 22 = .ok (.invokevirtual 304, 3) := by decide +kernel
theorem dX11_ball_25 : decode cX11_ball 25 = .ok (.iconst 1, 1) := by decide +kernel
theorem dX11_ball_26 : decode cX11_ball 26 = .ok (.isub, 1) := by decide +kernel
theorem dX11_ball_27 : decode cX11_ball 27 = .ok (.istore 5, 2) := by decide +kernel
theorem dX11_ball_29 : decode cX11_ball 29 = .ok (.iload 5, 2) := by decide +kernel
theorem dX11_ball_31 : decode cX11_ball 31 = .ok (.ifCond .lt 53, 3) := by decide +kernel
theorem dX11_ball_84 : decode cX11_ball 84 = .ok (.iconst (-1), 1) := by decide +kernel
theorem dX11_ball_85 : decode cX11_ball 85 = .ok (.ireturn, 1) := by decide +kernel
theorem dX11_ball_34 : decode cX11_ball 34 = .ok (.aload_n 0, 1) := by decide +kernel
theorem dX11_ball_35 : decode cX11_ball 35 = .ok (.getfield 19, 3) := by decide +kernel
theorem dX11_ball_38 : decode cX11_ball 38 = .ok (.getfield 190, 3) := by decide +kernel
theorem dX11_ball_41 : decode cX11_ball 41 = .ok (.iload_n 1, 1) := by decide +kernel
theorem dX11_ball_42 : decode cX11_ball 42 = .ok (.aaload, 1) := by decide +kernel
theorem dX11_ball_43 : decode cX11_ball 43 = .ok (.aload_n 0, 1) := by decide +kernel
theorem dX11_ball_44 : decode cX11_ball 44 = .ok (.getfield 19, 3) := by decide +kernel
theorem dX11_ball_47 : decode cX11_ball 47 = .ok (.getfield 116, 3) := by decide +kernel
theorem dX11_ball_50 : decode cX11_ball 50 = .ok (.iload 5, 2) := by decide +kernel
theorem dX11_ball_52 : decode cX11_ball 52 = .ok (.invokevirtual 308, 3) := by decide +kernel
theorem dX11_ball_55 : decode cX11_ball 55 = .ok (.invokevirtual 242, 3) := by decide +kernel
theorem dX11_ball_58 : decode cX11_ball 58 = .ok (.istore 6, 2) := by decide +kernel
theorem dX11_ball_60 : decode cX11_ball 60 = .ok (.iload 6, 2) := by decide +kernel
theorem dX11_ball_62 : decode cX11_ball 62 = .ok (.iconst 4, 1) := by decide +kernel
theorem dX11_ball_63 : decode cX11_ball 63 = .ok (.if_icmp .eq 15, 3) := by decide +kernel
theorem dX11_ball_78 : decode cX11_ball 78 = .ok (.iinc 5 (-1), 3) := by decide +kernel
theorem dX11_ball_81 : decode cX11_ball 81 = .ok (.goto (-52), 3) := by decide +kernel
theorem dX11_ball_66 : decode cX11_ball 66 = .ok (.iload 4, 2) := by decide +kernel
theorem dX11_ball_68 : decode cX11_ball 68 = .ok (.iload_n 2, 1) := by decide +kernel
theorem dX11_ball_69 : decode cX11_ball 69 = .ok (.if_icmp .ne 6, 3) := by decide +kernel
theorem dX11_ball_75 : decode cX11_ball 75 = .ok (.iinc 4 1, 3) := by decide +kernel
theorem dX11_ball_72 : decode cX11_ball 72 = .ok (.iload 6, 2) := by decide +kernel
theorem dX11_ball_74 : decode cX11_ball 74 = .ok (.ireturn, 1) := by decide +kernel
theorem dX11_ball_10 : decode cX11_ball 10 = .ok (.iload_n 3, 1) := by decide +kernel
theorem dX11_ball_11 : decode cX11_ball 11 = .ok (.ireturn, 1) := by decide +kernel
theorem dX11_rewind_0 : decode cX11_rewind 0 = .ok (.aload_n 0, 1) := by decide +kernel
theorem dX11_rewind_1 : decode cX11_rewind 1 = .ok (.iload_n 1, 1) := by decide +kernel
theorem dX11_rewind_2 : decode cX11_rewind 2 = .ok (.iload_n 2, 1) := by decide +kernel
theorem dX11_rewind_3 : decode cX11_rewind 3 = .ok (.invokevirtual 298, 3) := by decide +kernel
theorem dX11_rewind_6 : decode cX11_rewind 6 = .ok (.istore_n 3, 1) := by decide +kernel
theorem dX11_rewind_7 : decode cX11_rewind 7 = .ok (.iload_n 3, 1) := by decide +kernel
theorem dX11_rewind_8 : decode cX11_rewind 8 = .ok (.ifCond .eq 5, 3) := by decide +kernel
theorem dX11_rewind_13 : decode cX11_rewind 13 = .ok (.aload_n 0, 1) := by decide +kernel
theorem dX11_rewind_14 : decode cX11_rewind 14 = .ok (.getfield 85, 3) := by decide +kernel
theorem dX11_rewind_17 : decode cX11_rewind 17 = .ok (.aload_n 0, 1) := by decide +kernel
theorem dX11_rewind_18 : decode cX11_rewind 18 = .ok (.getfield 19, 3) := by decide +kernel
theorem dX11_rewind_21 : decode cX11_rewind 21 = .ok (.getfield 190, 3) := by decide +kernel
theorem dX11_rewind_24 : decode cX11_rewind 24 = .ok (.iload_n 1, 1) := by decide +kernel
theorem dX11_rewind_25 : decode cX11_rewind 25 = .ok (.aaload, 1) := by decide +kernel
theorem dX11_rewind_26 : decode cX11_rewind 26 = .ok (.aload_n 0, 1) := by decide +kernel
theorem dX11_rewind_27 : decode cX11_rewind 27 = .ok (.getfield 19, 3) := by decide +kernel
theorem dX11_rewind_30 : decode cX11_rewind 30 = .ok (.getfield 116, 3) := by decide +kernel
theorem dX11_rewind_33 : decode cX11_rewind 33 = .ok (.invokevirtual 311, 3) := by decide +kernel
theorem dX11_rewind_36 : decode cX11_rewind 36 = .ok (.aload_n 0, 1) := by decide +kernel
theorem dX11_rewind_37 : decode cX11_rewind 37 = .ok (.getfield 85, 3) := by decide +kernel
theorem dX11_rewind_40 : decode cX11_rewind 40 = .ok (.aload_n 0, 1) := by decide +kernel
theorem dX11_rewind_41 : decode cX11_rewind 41 = .ok (.getfield 19, 3) := by decide +kernel
theorem dX11_rewind_44 : decode cX11_rewind 44 = .ok (.getfield 190, 3) := by decide +kernel
theorem dX11_rewind_47 : decode cX11_rewind 47 = .ok (.iload_n 1, 1) := by decide +kernel
theorem dX11_rewind_48 : decode cX11_rewind 48 = .ok (.aaload, 1) := by decide +kernel
theorem dX11_rewind_49 : decode cX11_rewind 49 = .ok (.aload_n 0, 1) := by decide +kernel
theorem dX11_rewind_50 : decode cX11_rewind 50 = .ok (.getfield 19, 3) := by decide +kernel
theorem dX11_rewind_53 : decode cX11_rewind 53 = .ok (.getfield 116, 3) := by decide +kernel
theorem dX11_rewind_56 : decode cX11_rewind 56 = .ok (.invokevirtual 314, 3) := by decide +kernel
theorem dX11_rewind_59 : decode cX11_rewind 59 = .ok (.istore 4, 2) := by decide +kernel
theorem dX11_rewind_61 : decode cX11_rewind 61 = .ok (.aload_n 0, 1) := by decide +kernel
theorem dX11_rewind_62 : decode cX11_rewind 62 = .ok (.getfield 19, 3) := by decide +kernel
theorem dX11_rewind_65 : decode cX11_rewind 65 = .ok (.getfield 190, 3) := by decide +kernel
theorem dX11_rewind_68 : decode cX11_rewind 68 = .ok (.iload_n 2, 1) := by decide +kernel
theorem dX11_rewind_69 : decode cX11_rewind 69 = .ok (.aaload, 1) := by decide +kernel
theorem dX11_rewind_70 : decode cX11_rewind 70 = .ok (.aload_n 0, 1) := by decide +kernel
theorem dX11_rewind_71 : decode cX11_rewind 71 = .ok (.getfield 85, 3) := by decide +kernel
theorem dX11_rewind_74 : decode cX11_rewind 74 = .ok (.invokevirtual 318, 3) := by decide +kernel
theorem dX11_rewind_77 : decode cX11_rewind 77 = .ok (.iload 4, 2) := by decide +kernel
theorem dX11_rewind_79 : decode cX11_rewind 79 = .ok (.ireturn, 1) := by decide +kernel
theorem dX11_rewind_11 : decode cX11_rewind 11 = .ok (.iload_n 3, 1) := by decide +kernel
theorem dX11_rewind_12 : decode cX11_rewind 12 = .ok (.ireturn, 1) := by decide +kernel
theorem dX11_copy_0 : decode cX11_copy 0 = .ok (.iload_n 1, 1) := by decide +kernel
theorem dX11_copy_1 : decode cX11_copy 1 = .ok (.invokestatic 181, 3) := by decide +kernel
theorem dX11_copy_4 : decode cX11_copy 4 = .ok (.ifCond .eq 10, 3) := by decide +kernel
theorem dX11_copy_14 : decode cX11_copy 14 = .ok (.bipush (-2), 2) := by decide +kernel
theorem dX11_copy_16 : decode cX11_copy 16 = .ok (.ireturn, 1) := by decide +kernel
theorem dX11_copy_7 : decode cX11_copy 7 = .ok (.iload_n 2, 1) := by decide +kernel
theorem dX11_copy_8 : decode cX11_copy 8 = .ok (.invokestatic 181, 3) := by decide +kernel
theorem dX11_copy_11 : decode cX11_copy 11 = .ok (.ifCond .ne 6, 3) := by decide +kernel
theorem dX11_copy_17 : decode cX11_copy 17 = .ok (.aload_n 0, 1) := by decide +kernel
theorem dX11_copy_18 : decode cX11_copy 18 = .ok (.iload_n 1, 1) := by decide +kernel
theorem dX11_copy_19 : decode cX11_copy 19 = .ok (.invokevirtual 239, 3) := by decide +kernel
theorem dX11_copy_22 : decode cX11_copy 22 = .ok (.ifCond .ne 6, 3) := by decide +kernel
theorem dX11_copy_28 : decode cX11_copy 28 = .ok (.aload_n 0, 1) := by decide +kernel
theorem dX11_copy_29 : decode cX11_copy 29 = .ok (.getfield 19, 3) := by decide +kernel
theorem dX11_copy_32 : decode cX11_copy 32 = .ok (.getfield 190, 3) := by decide +kernel
theorem dX11_copy_35 : decode cX11_copy 35 = .ok (.iload_n 2, 1) := by decide +kernel
theorem dX11_copy_36 : decode cX11_copy 36 = .ok (.aaload, 1) := by decide +kernel
theorem dX11_copy_37 : decode cX11_copy 37 = .ok (.aload_n 0, 1) := by decide +kernel
theorem dX11_copy_38 : decode cX11_copy 38 = .ok (.getfield 19, 3) := by decide +kernel
theorem dX11_copy_41 : decode cX11_copy 41 = .ok (.getfield 190, 3) := by decide +kernel
theorem dX11_copy_44 : decode cX11_copy 44 = .ok (.iload_n 1, 1) := by decide +kernel
theorem dX11_copy_45 : decode cX11_copy 45 = .ok (.aaload, 1) := by decide +kernel
theorem dX11_copy_46 : decode cX11_copy 46 = .ok (.invokevirtual 318, 3) := by decide +kernel
theorem dX11_copy_49 : decode cX11_copy 49 = .ok (.iconst 0, 1) := by decide +kernel
theorem dX11_copy_50 : decode cX11_copy 50 = .ok (.ireturn, 1) := by decide +kernel
theorem dX11_copy_25 : decode cX11_copy 25 = .ok (.bipush (-6), 2) := by decide +kernel
theorem dX11_copy_27 : decode cX11_copy 27 = .ok (.ireturn, 1) := by decide +kernel
theorem dX11_turn_0 : decode cX11_turn 0 = .ok (.aload_n 0, 1) := by decide +kernel
theorem dX11_turn_1 : decode cX11_turn 1 = .ok (.getfield 19, 3) := by decide +kernel
theorem dX11_turn_4 : decode cX11_turn 4 = .ok (.getfield 116, 3) := by decide +kernel
theorem dX11_turn_7 : decode cX11_turn 7 = .ok (.iload_n 2, 1) := by decide +kernel
theorem dX11_turn_8 : decode cX11_turn 8 = .ok (.iload_n 3, 1) := by decide +kernel
theorem dX11_turn_9 : decode cX11_turn 9 = .ok (.invokevirtual 236, 3) := by decide +kernel
theorem dX11_turn_12 : decode cX11_turn 12 = .ok (.istore 4, 2) := by decide +kernel
theorem dX11_turn_14 : decode cX11_turn 14 = .ok (.iload_n 1, 1) := by decide +kernel
theorem dX11_turn_15 : decode cX11_turn 15 = .ok (.invokestatic 181, 3) := by decide +kernel
theorem dX11_turn_18 : decode cX11_turn 18 = .ok (.ifCond .eq 19, 3) := by decide +kernel
theorem dX11_turn_37 : decode cX11_turn 37 = .ok (.bipush (-2), 2) := by decide +kernel
theorem dX11_turn_39 : decode cX11_turn 39 = .ok (.ireturn, 1) := by decide +kernel
theorem dX11_turn_21 : decode cX11_turn 21 = .ok (.aload_n 0, 1) := by decide +kernel
theorem dX11_turn_22 : decode cX11_turn 22 = .ok (.getfield 19, 3) := by decide +kernel
theorem dX11_turn_25 : decode cX11_turn 25 = .ok (.getfield 116, 3) := by decide +kernel
theorem dX11_turn_28 : decode cX11_turn 28 = .ok (.iload 4, 2) := by decide +kernel
theorem dX11_turn_30 : decode cX11_turn 30 = .ok (.invokevirtual 245, 3) := by decide +kernel
theorem dX11_turn_33 : decode cX11_turn 33 = .ok (.iconst 2, 1) := by decide +kernel
theorem dX11_turn_34 : decode cX11_turn 34 = .ok (.if_icmp .ge 6, 3) := by decide +kernel
theorem dX11_turn_40 : decode cX11_turn 40 = .ok (.aload_n 0, 1) := by decide +kernel
theorem dX11_turn_41 : decode cX11_turn 41 = .ok (.iload_n 1, 1) := by decide +kernel
theorem dX11_turn_42 : decode cX11_turn 42 = .ok (.invokevirtual 239, 3) := by decide +kernel
theorem dX11_turn_45 : decode cX11_turn 45 = .ok (.ifCond .ne 6, 3) := by decide +kernel
theorem dX11_turn_51 : decode cX11_turn 51 = .ok (.aload_n 0, 1) := by decide +kernel
theorem dX11_turn_52 : decode cX11_turn 52 = .ok (.getfield 19, 3) := by decide +kernel
theorem dX11_turn_55 : decode cX11_turn 55 = .ok (.getfield 190, 3) := by decide +kernel
theorem dX11_turn_58 : decode cX11_turn 58 = .ok (.iload_n 1, 1) := by decide +kernel
theorem dX11_turn_59 : decode cX11_turn 59 = .ok (.aaload, 1) := by decide +kernel
theorem dX11_turn_60 : decode cX11_turn 60 = .ok (.iload 4, 2) := by decide +kernel
theorem dX11_turn_62 : decode cX11_turn 62 = .ok (.invokevirtual 242, 3) := by decide +kernel
theorem dX11_turn_65 : decode cX11_turn 65 = .ok (.iconst 4, 1) := by decide +kernel
theorem dX11_turn_66 : decode cX11_turn 66 = .ok (.if_icmp .ne 6, 3) := by decide +kernel
theorem dX11_turn_72 : decode cX11_turn 72 = .ok (.aload_n 0, 1) := by decide +kernel
theorem dX11_turn_73 : decode cX11_turn 73 = .ok (.getfield 19, 3) := by decide +kernel
theorem dX11_turn_76 : decode cX11_turn 76 = .ok (.getfield 116, 3) := by decide +kernel
theorem dX11_turn_79 : decode cX11_turn 79 = .ok (.iload 4, 2) := by decide +kernel
theorem dX11_turn_81 : decode cX11_turn 81 = .ok (.aload_n 0, 1) := by decide +kernel
theorem dX11_turn_82 : decode cX11_turn 82 = .ok (.getfield 19, 3) := by decide +kernel
theorem dX11_turn_85 : decode cX11_turn 85 = .ok (.getfield 190, 3) := by decide +kernel
theorem dX11_turn_88 : decode cX11_turn 88 = .ok (.iload_n 1, 1) := by decide +kernel
theorem dX11_turn_89 : decode cX11_turn 89 = .ok (.aaload, 1) := by decide +kernel
theorem dX11_turn_90 : decode cX11_turn 90 = .ok (.iload 4, 2) := by decide +kernel
theorem dX11_turn_92 : decode cX11_turn 92 = .ok (.invokevirtual 242, 3) := by decide +kernel
theorem dX11_turn_95 : decode cX11_turn 95 = .ok (.invokevirtual 321, 3) := by decide +kernel
theorem dX11_turn_98 : decode cX11_turn 98 = .ok (.istore 5, 2) := by decide +kernel
theorem dX11_turn_100 : decode cX11_turn 100 = .ok (.aload_n 0, 1) := by decide +kernel
theorem dX11_turn_101 : decode cX11_turn 101 = .ok (.getfield 19, 3) := by decide +kernel
theorem dX11_turn_104 : decode cX11_turn 104 = .ok (.getfield 190, 3) := by decide +kernel
theorem dX11_turn_107 : decode cX11_turn 107 = .ok (.iload_n 1, 1) := by decide +kernel
theorem dX11_turn_108 : decode cX11_turn 108 = .ok (.aaload, 1) := by decide +kernel
theorem dX11_turn_109 : decode cX11_turn 109 = .ok (.iload 4, 2) := by decide +kernel
theorem dX11_turn_111 : decode cX11_turn 111 = .ok (.iload 5, 2) := by decide +kernel
theorem dX11_turn_113 : decode cX11_turn 113 = .ok (.invokevirtual 324, 3) := by decide +kernel
theorem dX11_turn_116 : decode cX11_turn 116 = .ok (.iload 5, 2) := by decide +kernel
theorem dX11_turn_118 : decode cX11_turn 118 = .ok (.ireturn, 1) := by decide +kernel
theorem dX11_turn_69 : decode cX11_turn 69 = .ok (.bipush (-5), 2) := by decide +kernel
theorem dX11_turn_71 : decode cX11_turn 71 = .ok (.ireturn, 1) := by decide +kernel
theorem dX11_turn_48 : decode cX11_turn 48 = .ok (.bipush (-6), 2) := by decide +kernel
theorem dX11_turn_50 : decode cX11_turn 50 = .ok (.ireturn, 1) := by decide +kernel
theorem dX11_oneTurnPasses_0 : decode cX11_oneTurnPasses 0 = .ok (.iload_n 2, 1) := by decide +kernel
theorem dX11_oneTurnPasses_1 : decode cX11_oneTurnPasses 1 = .ok (.istore_n 3, 1) := by decide +kernel
theorem dX11_oneTurnPasses_2 : decode cX11_oneTurnPasses 2 = .ok (.iload_n 3, 1) := by decide +kernel
theorem dX11_oneTurnPasses_3 : decode cX11_oneTurnPasses 3 = .ok (.aload_n 0, 1) := by decide +kernel
theorem dX11_oneTurnPasses_4 : decode cX11_oneTurnPasses 4 = .ok (.getfield 19, 3) := by decide +kernel
theorem dX11_oneTurnPasses_7 : decode cX11_oneTurnPasses 7 = .ok (.getfield 116, 3) := by decide +kernel
theorem dX11_oneTurnPasses_10 : decode cX11_oneTurnPasses 10 = .ok (.getfield 126, 3) := by decide +kernel
theorem dX11_oneTurnPasses_13 : decode cX11_oneTurnPasses 13 = .ok (.if_icmp .ge 90, 3) := by decide +kernel
theorem dX11_oneTurnPasses_103 : decode cX11_oneTurnPasses 103 = .ok (.iconst 0, 1) := by decide +kernel
theorem dX11_oneTurnPasses_104 : decode cX11_oneTurnPasses 104 = .ok (.ireturn, 1) := by decide +kernel
theorem dX11_oneTurnPasses_16 : decode cX11_oneTurnPasses 16 = .ok (.aload_n 0, 1) := by decide +kernel
theorem dX11_oneTurnPasses_17 : decode cX11_oneTurnPasses 17 = .ok (.getfield 19, 3) := by decide +kernel
theorem dX11_oneTurnPasses_20 : decode cX11_oneTurnPasses 20 = .ok (.getfield 116, 3) := by decide +kernel
theorem dX11_oneTurnPasses_23 : decode cX11_oneTurnPasses 23 = .ok (.iload_n 3, 1) := by decide +kernel
theorem dX11_oneTurnPasses_24 : decode cX11_oneTurnPasses 24 = .ok (.invokevirtual 301, 3) := by decide +kernel
theorem dX11_oneTurnPasses_27 : decode cX11_oneTurnPasses 27 = .ok (.istore 4, 2) := by decide +kernel
theorem dX11_oneTurnPasses_29 : decode cX11_oneTurnPasses 29 = .ok (.aload_n 1, 1) := by decide +kernel
theorem dX11_oneTurnPasses_30 : decode cX11_oneTurnPasses 30 = .ok (.iload 4, 2) := by decide +kernel
theorem dX11_oneTurnPasses_32 : decode cX11_oneTurnPasses 32 = .ok (.invokevirtual 242, 3) := by decide +kernel
theorem dX11_oneTurnPasses_35 : decode cX11_oneTurnPasses 35 = .ok (.istore 5, 2) := by decide +kernel
theorem dX11_oneTurnPasses_37 : decode cX11_oneTurnPasses 37 = .ok (.iload 5, 2) := by decide +kernel
theorem dX11_oneTurnPasses_39 : decode cX11_oneTurnPasses 39 = .ok (.iconst 4, 1) := by decide +kernel
theorem dX11_oneTurnPasses_40 : decode cX11_oneTurnPasses 40 = .ok (.if_icmp .eq 57, 3) := by decide +kernel
theorem dX11_oneTurnPasses_97 : decode cX11_oneTurnPasses 97 = .ok (.iinc 3 1, 3) := by decide +kernel
theorem dX11_oneTurnPasses_100 : decode cX11_oneTurnPasses 100 = .ok (.goto (-98), 3) := by decide +kernel
theorem dX11_oneTurnPasses_43 : decode cX11_oneTurnPasses 43 = .ok (.aload_n 0, 1) := by decide +kernel
theorem dX11_oneTurnPasses_44 : decode cX11_oneTurnPasses 44 = .ok (.getfield 92, 3) := by decide +kernel
theorem dX11_oneTurnPasses_47 : decode cX11_oneTurnPasses 47 = .ok (.iload 4, 2) := by decide +kernel
theorem dX11_oneTurnPasses_49 : decode cX11_oneTurnPasses 49 = .ok (.aload_n 0, 1) := by decide +kernel
theorem dX11_oneTurnPasses_50 : decode cX11_oneTurnPasses 50 = .ok (.getfield 19, 3) := by decide +kernel
theorem dX11_oneTurnPasses_53 : decode cX11_oneTurnPasses 53 = .ok (.getfield 116, 3) := by decide +kernel
theorem dX11_oneTurnPasses_56 : decode cX11_oneTurnPasses 56 = .ok (.iload 4, 2) := by decide +kernel
theorem dX11_oneTurnPasses_58 : decode cX11_oneTurnPasses 58 = .ok (.iload 5, 2) := by decide +kernel
theorem dX11_oneTurnPasses_60 : decode cX11_oneTurnPasses 60 = .ok (.invokevirtual 321, 3) := by decide +kernel
theorem dX11_oneTurnPasses_63 : decode cX11_oneTurnPasses 63 = .ok (.invokevirtual 332, 3) := by decide +kernel
theorem dX11_oneTurnPasses_66 : decode cX11_oneTurnPasses 66 = .ok (.aload_n 0, 1) := by decide +kernel
theorem dX11_oneTurnPasses_67 : decode cX11_oneTurnPasses 67 = .ok (.getfield 19, 3) := by decide +kernel
theorem dX11_oneTurnPasses_70 : decode cX11_oneTurnPasses 70 = .ok (.getfield 158, 3) := by decide +kernel
theorem dX11_oneTurnPasses_73 : decode cX11_oneTurnPasses 73 = .ok (.aload_n 0, 1) := by decide +kernel
theorem dX11_oneTurnPasses_74 : decode cX11_oneTurnPasses 74 = .ok (.getfield 92, 3) := by decide +kernel
theorem dX11_oneTurnPasses_77 : decode cX11_oneTurnPasses 77 = .ok (.invokevirtual 425, 3) := by decide +kernel
theorem dX11_oneTurnPasses_80 : decode cX11_oneTurnPasses 80 = .ok (.iconst (-1), 1) := by decide +kernel
theorem dX11_oneTurnPasses_81 : decode cX11_oneTurnPasses 81 = .ok (.if_icmp .ne 5, 3) := by decide +kernel
theorem dX11_oneTurnPasses_86 : decode cX11_oneTurnPasses 86 = .ok (.aload_n 0, 1) := by decide +kernel
theorem dX11_oneTurnPasses_87 : decode cX11_oneTurnPasses 87 = .ok (.getfield 92, 3) := by decide +kernel
theorem dX11_oneTurnPasses_90 : decode cX11_oneTurnPasses 90 = .ok (.iload 4, 2) := by decide +kernel
theorem dX11_oneTurnPasses_92 : decode cX11_oneTurnPasses 92 = .ok (.iload 5, 2) := by decide +kernel
theorem dX11_oneTurnPasses_94 : decode cX11_oneTurnPasses 94 = .ok (.invokevirtual 332, 3) := by decide +kernel
theorem dX11_oneTurnPasses_84 : decode cX11_oneTurnPasses 84 = .ok (.iconst 1, 1) := by decide +kernel
theorem dX11_oneTurnPasses_85 : decode cX11_oneTurnPasses 85 = .ok (.ireturn, 1) := by decide +kernel
theorem dX11_mend_0 : decode cX11_mend 0 = .ok (.aload_n 0, 1) := by decide +kernel
theorem dX11_mend_1 : decode cX11_mend 1 = .ok (.iload_n 1, 1) := by decide +kernel
theorem dX11_mend_2 : decode cX11_mend 2 = .ok (.invokevirtual 229, 3) := by decide +kernel
theorem dX11_mend_5 : decode cX11_mend 5 = .ok (.istore_n 2, 1) := by decide +kernel
theorem dX11_mend_6 : decode cX11_mend 6 = .ok (.iload_n 2, 1) := by decide +kernel
theorem dX11_mend_7 : decode cX11_mend 7 = .ok (.ifCond .eq 5, 3) := by decide +kernel
theorem dX11_mend_12 : decode cX11_mend 12 = .ok (.aload_n 0, 1) := by decide +kernel
theorem dX11_mend_13 : decode cX11_mend 13 = .ok (.getfield 19, 3) := by decide +kernel
theorem dX11_mend_16 : decode cX11_mend 16 = .ok (.getfield 190, 3) := by decide +kernel
theorem dX11_mend_19 : decode cX11_mend 19 = .ok (.iload_n 1, 1) := by decide +kernel
theorem dX11_mend_20 : decode cX11_mend 20 = .ok (.aaload, 1) := by decide +kernel
theorem dX11_mend_21 : decode cX11_mend 21 = .ok (.astore_n 3, 1) := by decide +kernel
theorem dX11_mend_22 : decode cX11_mend 22 = .ok (.aload_n 0, 1) := by decide +kernel
theorem dX11_mend_23 : decode cX11_mend 23 = .ok (.aload_n 3, 1) := by decide +kernel
theorem dX11_mend_24 : decode cX11_mend 24 = .ok (.invokevirtual 272, 3) := by decide +kernel
theorem dX11_mend_27 : decode cX11_mend 27 = .ok (.iconst (-1), 1) := by decide +kernel
theorem dX11_mend_28 : decode cX11_mend 28 = .ok (.if_icmp .ne 5, 3) := by decide +kernel
theorem dX11_mend_33 : decode cX11_mend 33 = .ok (.aload_n 0, 1) := by decide +kernel
theorem dX11_mend_34 : decode cX11_mend 34 = .ok (.aload_n 3, 1) := by decide +kernel
theorem dX11_mend_35 : decode cX11_mend 35 = .ok (.iconst 0, 1) := by decide +kernel
theorem dX11_mend_36 : decode cX11_mend 36 = .ok (.invokevirtual 328, 3) := by decide +kernel
theorem dX11_mend_39 : decode cX11_mend 39 = .ok (.ifCond .eq 5, 3) := by decide +kernel
theorem dX11_mend_44 : decode cX11_mend 44 = .ok (.iconst 0, 1) := by decide +kernel
theorem dX11_mend_45 : decode cX11_mend 45 = .ok (.istore 4, 2) := by decide +kernel
theorem dX11_mend_47 : decode cX11_mend 47 = .ok (.iload 4, 2) := by decide +kernel
theorem dX11_mend_49 : decode cX11_mend 49 = .ok (.aload_n 0, 1) := by decide +kernel
theorem dX11_mend_50 : decode cX11_mend 50 = .ok (.getfield 19, 3) := by decide +kernel
theorem dX11_mend_53 : decode cX11_mend 53 = .ok (.getfield 116, 3) := by decide +kernel
theorem dX11_mend_56 : decode cX11_mend 56 = .ok (.getfield 126, 3) := by decide +kernel
theorem dX11_mend_59 : decode cX11_mend 59 = .ok (.if_icmp .ge 85, 3) := by decide +kernel
theorem dX11_mend_144 : decode cX11_mend 144 = .ok (.iconst (-1), 1) := by decide +kernel
theorem dX11_mend_145 : decode cX11_mend 145 = .ok (.ireturn, 1) := by decide +kernel
theorem dX11_mend_62 : decode cX11_mend 62 = .ok (.aload_n 0, 1) := by decide +kernel
theorem dX11_mend_63 : decode cX11_mend 63 = .ok (.getfield 19, 3) := by decide +kernel
theorem dX11_mend_66 : decode cX11_mend 66 = .ok (.getfield 116, 3) := by decide +kernel
theorem dX11_mend_69 : decode cX11_mend 69 = .ok (.iload 4, 2) := by decide +kernel
theorem dX11_mend_71 : decode cX11_mend 71 = .ok (.invokevirtual 301, 3) := by decide +kernel
theorem dX11_mend_74 : decode cX11_mend 74 = .ok (.istore 5, 2) := by decide +kernel
theorem dX11_mend_76 : decode cX11_mend 76 = .ok (.aload_n 3, 1) := by decide +kernel
theorem dX11_mend_77 : decode cX11_mend 77 = .ok (.iload 5, 2) := by decide +kernel
theorem dX11_mend_79 : decode cX11_mend 79 = .ok (.invokevirtual 242, 3) := by decide +kernel
theorem dX11_mend_82 : decode cX11_mend 82 = .ok (.istore 6, 2) := by decide +kernel
theorem dX11_mend_84 : decode cX11_mend 84 = .ok (.iload 6, 2) := by decide +kernel
theorem dX11_mend_86 : decode cX11_mend 86 = .ok (.iconst 4, 1) := by decide +kernel
theorem dX11_mend_87 : decode cX11_mend 87 = .ok (.if_icmp .eq 51, 3) := by decide +kernel
theorem dX11_mend_138 : decode cX11_mend 138 = .ok (.iinc 4 1, 3) := by decide +kernel
theorem dX11_mend_141 : decode cX11_mend 141 = .ok (.goto (-94), 3) := by decide +kernel
theorem dX11_mend_90 : decode cX11_mend 90 = .ok (.aload_n 0, 1) := by decide +kernel
theorem dX11_mend_91 : decode cX11_mend 91 = .ok (.getfield 92, 3) := by decide +kernel
theorem dX11_mend_94 : decode cX11_mend 94 = .ok (.iload 5, 2) := by decide +kernel
theorem dX11_mend_96 : decode cX11_mend 96 = .ok (.aload_n 0, 1) := by decide +kernel
theorem dX11_mend_97 : decode cX11_mend 97 = .ok (.getfield 19, 3) := by decide +kernel
theorem dX11_mend_100 : decode cX11_mend 100 = .ok (.getfield 116, 3) := by decide +kernel
theorem dX11_mend_103 : decode cX11_mend 103 = .ok (.iload 5, 2) := by decide +kernel
theorem dX11_mend_105 : decode cX11_mend 105 = .ok (.iload 6, 2) := by decide +kernel
theorem dX11_mend_107 : decode cX11_mend 107 = .ok (.invokevirtual 321, 3) := by decide +kernel
theorem dX11_mend_110 : decode cX11_mend 110 = .ok (.invokevirtual 332, 3) := by decide +kernel
theorem dX11_mend_113 : decode cX11_mend 113 = .ok (.aload_n 0, 1) := by decide +kernel
theorem dX11_mend_114 : decode cX11_mend 114 = .ok (.aload_n 3, 1) := by decide +kernel
theorem dX11_mend_115 : decode cX11_mend 115 = .ok (.iload 4, 2) := by decide +kernel
theorem dX11_mend_117 : decode cX11_mend 117 = .ok (.iconst 1, 1) := by decide +kernel
theorem dX11_mend_118 : decode cX11_mend 118 = .ok (.iadd, 1) := by decide +kernel
theorem dX11_mend_119 : decode cX11_mend 119 = .ok (.invokevirtual 328, 3) := by decide +kernel
theorem dX11_mend_122 : decode cX11_mend 122 = .ok (.ifCond .eq 5, 3) := by decide +kernel
theorem dX11_mend_127 : decode cX11_mend 127 = .ok (.aload_n 0, 1) := by decide +kernel
theorem dX11_mend_128 : decode cX11_mend 128 = .ok (.getfield 92, 3) := by decide +kernel
theorem dX11_mend_131 : decode cX11_mend 131 = .ok (.iload 5, 2) := by decide +kernel
theorem dX11_mend_133 : decode cX11_mend 133 = .ok (.iload 6, 2) := by decide +kernel
theorem dX11_mend_135 : decode cX11_mend 135 = .ok (.invokevirtual 332, 3) := by decide +kernel
theorem dX11_mend_125 : decode cX11_mend 125 = .ok (.iconst 2, 1) := by decide +kernel
theorem dX11_mend_126 : decode cX11_mend 126 = .ok (.ireturn, 1) := by decide +kernel
theorem dX11_mend_42 : decode cX11_mend 42 = .ok (.iconst 1, 1) := by decide +kernel
theorem dX11_mend_43 : decode cX11_mend 43 = .ok (.ireturn, 1) := by decide +kernel
theorem dX11_mend_31 : decode cX11_mend 31 = .ok (.iconst 0, 1) := by decide +kernel
theorem dX11_mend_32 : decode cX11_mend 32 = .ok (.ireturn, 1) := by decide +kernel
theorem dX11_mend_10 : decode cX11_mend 10 = .ok (.iload_n 2, 1) := by decide +kernel
theorem dX11_mend_11 : decode cX11_mend 11 = .ok (.ireturn, 1) := by decide +kernel
theorem dX11_slotsThere_0 : decode cX11_slotsThere 0 = .ok (.iconst 0, 1) := by decide +kernel
theorem dX11_slotsThere_1 : decode cX11_slotsThere 1 = .ok (.istore_n 1, 1) := by decide +kernel
theorem dX11_slotsThere_2 : decode cX11_slotsThere 2 = .ok (.iconst 0, 1) := by decide +kernel
theorem dX11_slotsThere_3 : decode cX11_slotsThere 3 = .ok (.istore_n 2, 1) := by decide +kernel
theorem dX11_slotsThere_4 : decode cX11_slotsThere 4 = .ok (.iload_n 2, 1) := by decide +kernel
theorem dX11_slotsThere_5 : decode cX11_slotsThere 5 = .ok (.iconst 4, 1) := by decide +kernel
theorem dX11_slotsThere_6 : decode cX11_slotsThere 6 = .ok (.if_icmp .ge 24, 3) := by decide +kernel
theorem dX11_slotsThere_30 : decode cX11_slotsThere 30 = .ok (.iload_n 1, 1) := by decide +kernel
theorem dX11_slotsThere_31 : decode cX11_slotsThere 31 = .ok (.ireturn, 1) := by decide +kernel
theorem dX11_slotsThere_9 : decode cX11_slotsThere 9 = .ok (.aload_n 0, 1) := by decide +kernel
theorem dX11_slotsThere_10 : decode cX11_slotsThere 10 = .ok (.getfield 36, 3) := by decide +kernel
theorem dX11_slotsThere_13 : decode cX11_slotsThere 13 = .ok (.iload_n 2, 1) := by decide +kernel
theorem dX11_slotsThere_14 : decode cX11_slotsThere 14 = .ok (.aaload, 1) := by decide +kernel
theorem dX11_slotsThere_15 : decode cX11_slotsThere 15 = .ok (.invokevirtual 359, 3) := by decide +kernel
theorem dX11_slotsThere_18 : decode cX11_slotsThere 18 = .ok (.ifCond .eq 6, 3) := by decide +kernel
theorem dX11_slotsThere_24 : decode cX11_slotsThere 24 = .ok (.iinc 2 1, 3) := by decide +kernel
theorem dX11_slotsThere_27 : decode cX11_slotsThere 27 = .ok (.goto (-23), 3) := by decide +kernel
theorem dX11_slotsThere_21 : decode cX11_slotsThere 21 = .ok (.iinc 1 1, 3) := by decide +kernel
theorem dX11_count_0 : decode cX11_count 0 = .ok (.iload_n 1, 1) := by decide +kernel
theorem dX11_count_1 : decode cX11_count 1 = .ok (.tableswitch 147 0 9 #[55, 66, 77, 88, 96, 107, 118, 126, 134, 142], 55) := by decide +kernel
theorem dX11_count_56 : decode cX11_count 56 = .ok (.aload_n 0, 1) := by decide +kernel
theorem dX11_count_57 : decode cX11_count 57 = .ok (.getfield 19, 3) := by decide +kernel
theorem dX11_count_60 : decode cX11_count 60 = .ok (.getfield 116, 3) := by decide +kernel
theorem dX11_count_63 : decode cX11_count 63 = .ok (.getfield 335, 3) := by decide +kernel
theorem dX11_count_66 : decode cX11_count 66 = .ok (.ireturn, 1) := by decide +kernel
theorem dX11_count_67 : decode cX11_count 67 = .ok (.aload_n 0, 1) := by decide +kernel
theorem dX11_count_68 : decode cX11_count 68 = .ok (.getfield 19, 3) := by decide +kernel
theorem dX11_count_71 : decode cX11_count 71 = .ok (.getfield 116, 3) := by decide +kernel
theorem dX11_count_74 : decode cX11_count 74 = .ok (.getfield 338, 3) := by decide +kernel
theorem dX11_count_77 : decode cX11_count 77 = .ok (.ireturn, 1) := by decide +kernel
theorem dX11_count_78 : decode cX11_count 78 = .ok (.aload_n 0, 1) := by decide +kernel
theorem dX11_count_79 : decode cX11_count 79 = .ok (.getfield 19, 3) := by decide +kernel
theorem dX11_count_82 : decode cX11_count 82 = .ok (.getfield 116, 3) := by decide +kernel
theorem dX11_count_85 : decode cX11_count 85 = .ok (.getfield 126, 3) := by decide +kernel
theorem dX11_count_88 : decode cX11_count 88 = .ok (.ireturn, 1) := by decide +kernel
theorem dX11_count_89 : decode cX11_count 89 = .ok (.aload_n 0, 1) := by decide +kernel
theorem dX11_count_90 : decode cX11_count 90 = .ok (.getfield 19, 3) := by decide +kernel
theorem dX11_count_93 : decode cX11_count 93 = .ok (.invokevirtual 341, 3) := by decide +kernel
theorem dX11_count_96 : decode cX11_count 96 = .ok (.ireturn, 1) := by decide +kernel
theorem dX11_count_97 : decode cX11_count 97 = .ok (.aload_n 0, 1) := by decide +kernel
theorem dX11_count_98 : decode cX11_count 98 = .ok (.getfield 19, 3) := by decide +kernel
theorem dX11_count_101 : decode cX11_count 101 = .ok (.getfield 158, 3) := by decide +kernel
theorem dX11_count_104 : decode cX11_count 104 = .ok (.getfield 164, 3) := by decide +kernel
theorem dX11_count_107 : decode cX11_count 107 = .ok (.ireturn, 1) := by decide +kernel
theorem dX11_count_108 : decode cX11_count 108 = .ok (.aload_n 0, 1) := by decide +kernel
theorem dX11_count_109 : decode cX11_count 109 = .ok (.getfield 19, 3) := by decide +kernel
theorem dX11_count_112 : decode cX11_count 112 = .ok (.getfield 168, 3) := by decide +kernel
theorem dX11_count_115 : decode cX11_count 115 = .ok (.getfield 174, 3) := by decide +kernel
theorem dX11_count_118 : decode cX11_count 118 = .ok (.ireturn, 1) := by decide +kernel
theorem dX11_count_119 : decode cX11_count 119 = .ok (.aload_n 0, 1) := by decide +kernel
theorem dX11_count_120 : decode cX11_count 120 = .ok (.getfield 19, 3) := by decide +kernel
theorem dX11_count_123 : decode cX11_count 123 = .ok (.invokevirtual 344, 3) := by decide +kernel
theorem dX11_count_126 : decode cX11_count 126 = .ok (.ireturn, 1) := by decide +kernel
theorem dX11_count_127 : decode cX11_count 127 = .ok (.aload_n 0, 1) := by decide +kernel
theorem dX11_count_128 : decode cX11_count 128 = .ok (.getfield 12, 3) := by decide +kernel
theorem dX11_count_131 : decode cX11_count 131 = .ok (.getfield 105, 3) := by decide +kernel
theorem dX11_count_134 : decode cX11_count 134 = .ok (.ireturn, 1) := by decide +kernel
theorem dX11_count_135 : decode cX11_count 135 = .ok (.aload_n 0, 1) := by decide +kernel
theorem dX11_count_136 : decode cX11_count 136 = .ok (.getfield 30, 3) := by decide +kernel
theorem dX11_count_139 : decode cX11_count 139 = .ok (.getfield 213, 3) := by decide +kernel
theorem dX11_count_142 : decode cX11_count 142 = .ok (.ireturn, 1) := by decide +kernel
theorem dX11_count_143 : decode cX11_count 143 = .ok (.aload_n 0, 1) := by decide +kernel
theorem dX11_count_144 : decode cX11_count 144 = .ok (.invokevirtual 347, 3) := by decide +kernel
theorem dX11_count_147 : decode cX11_count 147 = .ok (.ireturn, 1) := by decide +kernel
theorem dX11_count_148 : decode cX11_count 148 = .ok (.iconst (-1), 1) := by decide +kernel
theorem dX11_count_149 : decode cX11_count 149 = .ok (.ireturn, 1) := by decide +kernel
theorem dX11_back_0 : decode cX11_back 0 = .ok (.iload_n 1, 1) := by decide +kernel
theorem dX11_back_1 : decode cX11_back 1 = .ok (.ifCond .lt 8, 3) := by decide +kernel
theorem dX11_back_9 : decode cX11_back 9 = .ok (.bipush (-2), 2) := by decide +kernel
theorem dX11_back_11 : decode cX11_back 11 = .ok (.ireturn, 1) := by decide +kernel
theorem dX11_back_4 : decode cX11_back 4 = .ok (.iload_n 1, 1) := by decide +kernel
theorem dX11_back_5 : decode cX11_back 5 = .ok (.iconst 3, 1) := by decide +kernel
theorem dX11_back_6 : decode cX11_back 6 = .ok (.if_icmp .lt 6, 3) := by decide +kernel
theorem dX11_back_12 : decode cX11_back 12 = .ok (.aload_n 0, 1) := by decide +kernel
theorem dX11_back_13 : decode cX11_back 13 = .ok (.getfield 23, 3) := by decide +kernel
theorem dX11_back_16 : decode cX11_back 16 = .ok (.iload_n 1, 1) := by decide +kernel
theorem dX11_back_17 : decode cX11_back 17 = .ok (.aaload, 1) := by decide +kernel
theorem dX11_back_18 : decode cX11_back 18 = .ok (.ifnonnull 6, 3) := by decide +kernel
theorem dX11_back_21 : decode cX11_back 21 = .ok (.bipush (-6), 2) := by decide +kernel
theorem dX11_back_23 : decode cX11_back 23 = .ok (.ireturn, 1) := by decide +kernel
theorem dX11_back_24 : decode cX11_back 24 = .ok (.aload_n 0, 1) := by decide +kernel
theorem dX11_back_25 : decode cX11_back 25 = .ok (.getfield 19, 3) := by decide +kernel
theorem dX11_back_28 : decode cX11_back 28 = .ok (.aload_n 0, 1) := by decide +kernel
theorem dX11_back_29 : decode cX11_back 29 = .ok (.getfield 23, 3) := by decide +kernel
theorem dX11_back_32 : decode cX11_back 32 = .ok (.iload_n 1, 1) := by decide +kernel
theorem dX11_back_33 : decode cX11_back 33 = .ok (.aaload, 1) := by decide +kernel
theorem dX11_back_34 : decode cX11_back 34 = .ok (.invokevirtual 350, 3) := by decide +kernel
theorem dX11_back_37 : decode cX11_back 37 = .ok (.iconst 0, 1) := by decide +kernel
theorem dX11_back_38 : decode cX11_back 38 = .ok (.ireturn, 1) := by decide +kernel
theorem dX11_isSlot_0 : decode cX11_isSlot 0 = .ok (.iload_n 0, 1) := by decide +kernel
theorem dX11_isSlot_1 : decode cX11_isSlot 1 = .ok (.ifCond .lt 12, 3) := by decide +kernel
theorem dX11_isSlot_13 : decode cX11_isSlot 13 = .ok (.iconst 0, 1) := by decide +kernel
theorem dX11_isSlot_14 : decode cX11_isSlot 14 = .ok (.ireturn, 1) := by decide +kernel
theorem dX11_isSlot_4 : decode cX11_isSlot 4 = .ok (.iload_n 0, 1) := by decide +kernel
theorem dX11_isSlot_5 : decode cX11_isSlot 5 = .ok (.iconst 4, 1) := by decide +kernel
theorem dX11_isSlot_6 : decode cX11_isSlot 6 = .ok (.if_icmp .ge 7, 3) := by decide +kernel
theorem dX11_isSlot_9 : decode cX11_isSlot 9 = .ok (.iconst 1, 1) := by decide +kernel
theorem dX11_isSlot_10 : decode cX11_isSlot 10 = .ok (.goto 4, 3) := by decide +kernel
theorem dX11_row_0 : decode cX11_row 0 = .ok (.iload_n 1, 1) := by decide +kernel
theorem dX11_row_1 : decode cX11_row 1 = .ok (.invokestatic 353, 3) := by decide +kernel
theorem dX11_row_4 : decode cX11_row 4 = .ok (.ifCond .eq 18, 3) := by decide +kernel
theorem dX11_row_22 : decode cX11_row 22 = .ok (.bipush (-2), 2) := by decide +kernel
theorem dX11_row_24 : decode cX11_row 24 = .ok (.ireturn, 1) := by decide +kernel
theorem dX11_row_7 : decode cX11_row 7 = .ok (.iload_n 2, 1) := by decide +kernel
theorem dX11_row_8 : decode cX11_row 8 = .ok (.ifCond .lt 14, 3) := by decide +kernel
theorem dX11_row_11 : decode cX11_row 11 = .ok (.iload_n 2, 1) := by decide +kernel
theorem dX11_row_12 : decode cX11_row 12 = .ok (.iconst 4, 1) := by decide +kernel
theorem dX11_row_13 : decode cX11_row 13 = .ok (.if_icmp .ge 9, 3) := by decide +kernel
theorem dX11_row_16 : decode cX11_row 16 = .ok (.iload_n 3, 1) := by decide +kernel
theorem dX11_row_17 : decode cX11_row 17 = .ok (.bipush 60, 2) := by decide +kernel
theorem dX11_row_19 : decode cX11_row 19 = .ok (.if_icmp .le 6, 3) := by decide +kernel
theorem dX11_row_25 : decode cX11_row 25 = .ok (.iload_n 3, 1) := by decide +kernel
theorem dX11_row_26 : decode cX11_row 26 = .ok (.ifCond .ge 6, 3) := by decide +kernel
theorem dX11_row_32 : decode cX11_row 32 = .ok (.aload_n 0, 1) := by decide +kernel
theorem dX11_row_33 : decode cX11_row 33 = .ok (.getfield 36, 3) := by decide +kernel
theorem dX11_row_36 : decode cX11_row 36 = .ok (.iload_n 1, 1) := by decide +kernel
theorem dX11_row_37 : decode cX11_row 37 = .ok (.aaload, 1) := by decide +kernel
theorem dX11_row_38 : decode cX11_row 38 = .ok (.iload_n 2, 1) := by decide +kernel
theorem dX11_row_39 : decode cX11_row 39 = .ok (.iload_n 3, 1) := by decide +kernel
theorem dX11_row_40 : decode cX11_row 40 = .ok (.invokevirtual 356, 3) := by decide +kernel
theorem dX11_row_43 : decode cX11_row 43 = .ok (.iconst 0, 1) := by decide +kernel
theorem dX11_row_44 : decode cX11_row 44 = .ok (.ireturn, 1) := by decide +kernel
theorem dX11_row_29 : decode cX11_row 29 = .ok (.bipush (-3), 2) := by decide +kernel
theorem dX11_row_31 : decode cX11_row 31 = .ok (.ireturn, 1) := by decide +kernel
theorem dX11_write_0 : decode cX11_write 0 = .ok (.iload_n 1, 1) := by decide +kernel
theorem dX11_write_1 : decode cX11_write 1 = .ok (.invokestatic 353, 3) := by decide +kernel
theorem dX11_write_4 : decode cX11_write 4 = .ok (.ifCond .ne 6, 3) := by decide +kernel
theorem dX11_write_10 : decode cX11_write 10 = .ok (.aload_n 0, 1) := by decide +kernel
theorem dX11_write_11 : decode cX11_write 11 = .ok (.getfield 36, 3) := by decide +kernel
theorem dX11_write_14 : decode cX11_write 14 = .ok (.iload_n 1, 1) := by decide +kernel
theorem dX11_write_15 : decode cX11_write 15 = .ok (.aaload, 1) := by decide +kernel
theorem dX11_write_16 : decode cX11_write 16 = .ok (.invokevirtual 359, 3) := by decide +kernel
theorem dX11_write_19 : decode cX11_write 19 = .ok (.ifCond .ne 6, 3) := by decide +kernel
theorem dX11_write_25 : decode cX11_write 25 = .ok (.aload_n 0, 1) := by decide +kernel
theorem dX11_write_26 : decode cX11_write 26 = .ok (.getfield 36, 3) := by decide +kernel
theorem dX11_write_29 : decode cX11_write 29 = .ok (.iload_n 1, 1) := by decide +kernel
theorem dX11_write_30 : decode cX11_write 30 = .ok (.aaload, 1) := by decide +kernel
theorem dX11_write_31 : decode cX11_write 31 = .ok (.iload_n 2, 1) := by decide +kernel
theorem dX11_write_32 : decode cX11_write 32 = .ok (.iconst 1, 1) := by decide +kernel
theorem dX11_write_33 : decode cX11_write 33 = .ok (.invokevirtual 360, 3) := by decide +kernel
theorem dX11_write_36 : decode cX11_write 36 = .ok (.ifCond .ne 6, 3) := by decide +kernel
theorem dX11_write_42 : decode cX11_write 42 = .ok (.aload_n 0, 1) := by decide +kernel
