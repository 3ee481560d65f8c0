theorem dX9_tell_22 : decode cX9_tell 22 = .ok (.aload_n 1, 1) := by decide +kernel
theorem dX9_tell_23 : decode cX9_tell 23 = .ok (.invokevirtual 35, 3) := by decide +kernel
theorem dX9_tell_26 : decode cX9_tell 26 = .ok (.ifCond .eq 44, 3) := by decide +kernel
theorem dX9_tell_70 : decode cX9_tell 70 = .ok (.aload_n 1, 1) := by decide +kernel
theorem dX9_tell_71 : decode cX9_tell 71 = .ok (.invokevirtual 53, 3) := by decide +kernel
theorem dX9_tell_74 : decode cX9_tell 74 = .ok (.ireturn, 1) := by decide +kernel
theorem dX9_takeFrom_0 : decode cX9_takeFrom 0 = .ok (.aload_n 1, 1) := by decide +kernel
theorem dX9_takeFrom_1 : decode cX9_takeFrom 1 = .ok (.getfield 13, 3) := by decide +kernel
theorem dX9_takeFrom_4 : decode cX9_takeFrom 4 = .ok (.iconst 0, 1) := by decide +kernel
theorem dX9_takeFrom_5 : decode cX9_takeFrom 5 = .ok (.aload_n 0, 1) := by decide +kernel
theorem dX9_takeFrom_6 : decode cX9_takeFrom 6 = .ok (.getfield 13, 3) := by decide +kernel
theorem dX9_takeFrom_9 : decode cX9_takeFrom 9 = .ok (.iconst 0, 1) := by decide +kernel
theorem dX9_takeFrom_10 : decode cX9_takeFrom 10 = .ok (.sipush 300, 3) := by decide +kernel
theorem dX9_takeFrom_13 : decode cX9_takeFrom 13 = .ok (.invokestatic 17, 3) := by decide +kernel
theorem dX9_takeFrom_16 : decode cX9_takeFrom 16 = .ok (.aload_n 0, 1) := by decide +kernel
theorem dX9_takeFrom_17 : decode cX9_takeFrom 17 = .ok (.aload_n 1, 1) := by decide +kernel
theorem dX9_takeFrom_18 : decode cX9_takeFrom 18 = .ok (.getfield 23, 3) := by decide +kernel
theorem dX9_takeFrom_21 : decode cX9_takeFrom 21 = .ok (.putfield 23, 3) := by decide +kernel
theorem dX9_takeFrom_24 : decode cX9_takeFrom 24 = .ok (.aload_n 0, 1) := by decide +kernel
theorem dX9_takeFrom_25 : decode cX9_takeFrom 25 = .ok (.aload_n 1, 1) := by decide +kernel
theorem dX9_takeFrom_26 : decode cX9_takeFrom 26 = .ok (.getfield 27, 3) := by decide +kernel
theorem dX9_takeFrom_29 : decode cX9_takeFrom 29 = .ok (.putfield 27, 3) := by decide +kernel
theorem dX9_takeFrom_32 : decode cX9_takeFrom 32 = .ok (.return_, 1) := by decide +kernel
theorem dX11_watcher_0 : decode cX11_watcher 0 = .ok (.aload_n 0, 1) := by decide +kernel
theorem dX11_watcher_1 : decode cX11_watcher 1 = .ok (.getfield 61, 3) := by decide +kernel
theorem dX11_watcher_4 : decode cX11_watcher 4 = .ok (.aload_n 0, 1) := by decide +kernel
theorem dX11_watcher_5 : decode cX11_watcher 5 = .ok (.getfield 12, 3) := by decide +kernel
theorem dX11_watcher_8 : decode cX11_watcher 8 = .ok (.invokevirtual 157, 3) := by decide +kernel
theorem dX11_watcher_11 : decode cX11_watcher 11 = .ok (.istore_n 1, 1) := by decide +kernel
theorem dX11_watcher_12 : decode cX11_watcher 12 = .ok (.aload_n 0, 1) := by decide +kernel
theorem dX11_watcher_13 : decode cX11_watcher 13 = .ok (.getfield 12, 3) := by decide +kernel
theorem dX11_watcher_16 : decode cX11_watcher 16 = .ok (.invokevirtual 113, 3) := by decide +kernel
theorem dX11_watcher_19 : decode cX11_watcher 19 = .ok (.iload_n 1, 1) := by decide +kernel
theorem dX11_watcher_20 : decode cX11_watcher 20 = .ok (.ifCond .ne 6, 3) := by decide +kernel
theorem dX11_watcher_26 : decode cX11_watcher 26 = .ok (.aload_n 0, 1) := by decide +kernel
theorem dX11_watcher_27 : decode cX11_watcher 27 = .ok (.getfield 19, 3) := by decide +kernel
theorem dX11_watcher_30 : decode cX11_watcher 30 = .ok (.getfield 158, 3) := by decide +kernel
theorem dX11_watcher_33 : decode cX11_watcher 33 = .ok (.aload_n 0, 1) := by decide +kernel
theorem dX11_watcher_34 : decode cX11_watcher 34 = .ok (.getfield 61, 3) := by decide +kernel
theorem dX11_watcher_37 : decode cX11_watcher 37 = .ok (.invokevirtual 161, 3) := by decide +kernel
theorem dX11_watcher_40 : decode cX11_watcher 40 = .ok (.aload_n 0, 1) := by decide +kernel
theorem dX11_watcher_41 : decode cX11_watcher 41 = .ok (.getfield 19, 3) := by decide +kernel
theorem dX11_watcher_44 : decode cX11_watcher 44 = .ok (.getfield 158, 3) := by decide +kernel
theorem dX11_watcher_47 : decode cX11_watcher 47 = .ok (.getfield 164, 3) := by decide +kernel
theorem dX11_watcher_50 : decode cX11_watcher 50 = .ok (.ireturn, 1) := by decide +kernel
theorem dX3_tell_0 : decode cX3_tell 0 = .ok (.aload_n 1, 1) := by decide +kernel
theorem dX3_tell_1 : decode cX3_tell 1 = .ok (.invokevirtual 31, 3) := by decide +kernel
theorem dX3_tell_4 : decode cX3_tell 4 = .ok (.aload_n 0, 1) := by decide +kernel
theorem dX3_tell_5 : decode cX3_tell 5 = .ok (.iconst 0, 1) := by decide +kernel
theorem dX3_tell_6 : decode cX3_tell 6 = .ok (.putfield 27, 3) := by decide +kernel
theorem dX3_tell_9 : decode cX3_tell 9 = .ok (.iconst 0, 1) := by decide +kernel
theorem dX3_tell_10 : decode cX3_tell 10 = .ok (.istore_n 2, 1) := by decide +kernel
theorem dX3_tell_11 : decode cX3_tell 11 = .ok (.iload_n 2, 1) := by decide +kernel
theorem dX3_tell_12 : decode cX3_tell 12 = .ok (.bipush 12, 2) := by decide +kernel
theorem dX3_tell_14 : decode cX3_tell 14 = .ok (.if_icmp .gt 21, 3) := by decide +kernel
theorem dX3_tell_17 : decode cX3_tell 17 = .ok (.aload_n 1, 1) := by decide +kernel
theorem dX3_tell_18 : decode cX3_tell 18 = .ok (.invokevirtual 36, 3) := by decide +kernel
theorem dX3_tell_21 : decode cX3_tell 21 = .ok (.ifCond .eq 14, 3) := by decide +kernel
theorem dX3_tell_35 : decode cX3_tell 35 = .ok (.aload_n 1, 1) := by decide +kernel
theorem dX3_tell_36 : decode cX3_tell 36 = .ok (.invokevirtual 44, 3) := by decide +kernel
theorem dX3_tell_39 : decode cX3_tell 39 = .ok (.ireturn, 1) := by decide +kernel
theorem dX3_takeFrom_0 : decode cX3_takeFrom 0 = .ok (.aload_n 1, 1) := by decide +kernel
theorem dX3_takeFrom_1 : decode cX3_takeFrom 1 = .ok (.getfield 9, 3) := by decide +kernel
theorem dX3_takeFrom_4 : decode cX3_takeFrom 4 = .ok (.iconst 0, 1) := by decide +kernel
theorem dX3_takeFrom_5 : decode cX3_takeFrom 5 = .ok (.aload_n 0, 1) := by decide +kernel
theorem dX3_takeFrom_6 : decode cX3_takeFrom 6 = .ok (.getfield 9, 3) := by decide +kernel
theorem dX3_takeFrom_9 : decode cX3_takeFrom 9 = .ok (.iconst 0, 1) := by decide +kernel
theorem dX3_takeFrom_10 : decode cX3_takeFrom 10 = .ok (.bipush 12, 2) := by decide +kernel
theorem dX3_takeFrom_12 : decode cX3_takeFrom 12 = .ok (.invokestatic 21, 3) := by decide +kernel
theorem dX3_takeFrom_15 : decode cX3_takeFrom 15 = .ok (.aload_n 1, 1) := by decide +kernel
theorem dX3_takeFrom_16 : decode cX3_takeFrom 16 = .ok (.getfield 15, 3) := by decide +kernel
theorem dX3_takeFrom_19 : decode cX3_takeFrom 19 = .ok (.iconst 0, 1) := by decide +kernel
theorem dX3_takeFrom_20 : decode cX3_takeFrom 20 = .ok (.aload_n 0, 1) := by decide +kernel
theorem dX3_takeFrom_21 : decode cX3_takeFrom 21 = .ok (.getfield 15, 3) := by decide +kernel
theorem dX3_takeFrom_24 : decode cX3_takeFrom 24 = .ok (.iconst 0, 1) := by decide +kernel
theorem dX3_takeFrom_25 : decode cX3_takeFrom 25 = .ok (.bipush 12, 2) := by decide +kernel
theorem dX3_takeFrom_27 : decode cX3_takeFrom 27 = .ok (.invokestatic 21, 3) := by decide +kernel
theorem dX3_takeFrom_30 : decode cX3_takeFrom 30 = .ok (.aload_n 1, 1) := by decide +kernel
theorem dX3_takeFrom_31 : decode cX3_takeFrom 31 = .ok (.getfield 18, 3) := by decide +kernel
theorem dX3_takeFrom_34 : decode cX3_takeFrom 34 = .ok (.iconst 0, 1) := by decide +kernel
theorem dX3_takeFrom_35 : decode cX3_takeFrom 35 = .ok (.aload_n 0, 1) := by decide +kernel
theorem dX3_takeFrom_36 : decode cX3_takeFrom 36 = .ok (.getfield 18, 3) := by decide +kernel
theorem dX3_takeFrom_39 : decode cX3_takeFrom 39 = .ok (.iconst 0, 1) := by decide +kernel
theorem dX3_takeFrom_40 : decode cX3_takeFrom 40 = .ok (.bipush 12, 2) := by decide +kernel
theorem dX3_takeFrom_42 : decode cX3_takeFrom 42 = .ok (.invokestatic 21, 3) := by decide +kernel
theorem dX3_takeFrom_45 : decode cX3_takeFrom 45 = .ok (.aload_n 0, 1) := by decide +kernel
theorem dX3_takeFrom_46 : decode cX3_takeFrom 46 = .ok (.aload_n 1, 1) := by decide +kernel
theorem dX3_takeFrom_47 : decode cX3_takeFrom 47 = .ok (.getfield 27, 3) := by decide +kernel
theorem dX3_takeFrom_50 : decode cX3_takeFrom 50 = .ok (.putfield 27, 3) := by decide +kernel
theorem dX3_takeFrom_53 : decode cX3_takeFrom 53 = .ok (.return_, 1) := by decide +kernel
theorem dX11_losses_0 : decode cX11_losses 0 = .ok (.aload_n 0, 1) := by decide +kernel
theorem dX11_losses_1 : decode cX11_losses 1 = .ok (.getfield 68, 3) := by decide +kernel
theorem dX11_losses_4 : decode cX11_losses 4 = .ok (.aload_n 0, 1) := by decide +kernel
theorem dX11_losses_5 : decode cX11_losses 5 = .ok (.getfield 12, 3) := by decide +kernel
theorem dX11_losses_8 : decode cX11_losses 8 = .ok (.invokevirtual 167, 3) := by decide +kernel
theorem dX11_losses_11 : decode cX11_losses 11 = .ok (.istore_n 1, 1) := by decide +kernel
theorem dX11_losses_12 : decode cX11_losses 12 = .ok (.aload_n 0, 1) := by decide +kernel
theorem dX11_losses_13 : decode cX11_losses 13 = .ok (.getfield 12, 3) := by decide +kernel
theorem dX11_losses_16 : decode cX11_losses 16 = .ok (.invokevirtual 113, 3) := by decide +kernel
theorem dX11_losses_19 : decode cX11_losses 19 = .ok (.iload_n 1, 1) := by decide +kernel
theorem dX11_losses_20 : decode cX11_losses 20 = .ok (.ifCond .ne 6, 3) := by decide +kernel
theorem dX11_losses_26 : decode cX11_losses 26 = .ok (.aload_n 0, 1) := by decide +kernel
theorem dX11_losses_27 : decode cX11_losses 27 = .ok (.getfield 19, 3) := by decide +kernel
theorem dX11_losses_30 : decode cX11_losses 30 = .ok (.getfield 168, 3) := by decide +kernel
theorem dX11_losses_33 : decode cX11_losses 33 = .ok (.aload_n 0, 1) := by decide +kernel
theorem dX11_losses_34 : decode cX11_losses 34 = .ok (.getfield 68, 3) := by decide +kernel
theorem dX11_losses_37 : decode cX11_losses 37 = .ok (.invokevirtual 171, 3) := by decide +kernel
theorem dX11_losses_40 : decode cX11_losses 40 = .ok (.aload_n 0, 1) := by decide +kernel
theorem dX11_losses_41 : decode cX11_losses 41 = .ok (.getfield 19, 3) := by decide +kernel
theorem dX11_losses_44 : decode cX11_losses 44 = .ok (.getfield 168, 3) := by decide +kernel
theorem dX11_losses_47 : decode cX11_losses 47 = .ok (.getfield 174, 3) := by decide +kernel
theorem dX11_losses_50 : decode cX11_losses 50 = .ok (.ireturn, 1) := by decide +kernel
