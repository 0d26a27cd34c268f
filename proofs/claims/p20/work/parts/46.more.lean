theorem dX8_more_0 : decode cX8_more 0 = .ok (.aload_n 0, 1) := by decide +kernel
theorem dX8_more_1 : decode cX8_more 1 = .ok (.getfield 79, 3) := by decide +kernel
theorem dX8_more_10 : decode cX8_more 10 = .ok (.iconst 1, 1) := by decide +kernel
theorem dX8_more_11 : decode cX8_more 11 = .ok (.invokevirtual 149, 3) := by decide +kernel
theorem dX8_more_14 : decode cX8_more 14 = .ok (.astore_n 2, 1) := by decide +kernel
theorem dX8_more_15 : decode cX8_more 15 = .ok (.aload_n 0, 1) := by decide +kernel
theorem dX8_more_16 : decode cX8_more 16 = .ok (.iconst 0, 1) := by decide +kernel
theorem dX8_more_17 : decode cX8_more 17 = .ok (.invokevirtual 149, 3) := by decide +kernel
theorem dX8_more_20 : decode cX8_more 20 = .ok (.astore_n 3, 1) := by decide +kernel
theorem dX8_more_21 : decode cX8_more 21 = .ok (.aload_n 2, 1) := by decide +kernel
theorem dX8_more_22 : decode cX8_more 22 = .ok (.getfield 153, 3) := by decide +kernel
theorem dX8_more_25 : decode cX8_more 25 = .ok (.ifCond .ne 10, 3) := by decide +kernel
theorem dX8_more_28 : decode cX8_more 28 = .ok (.aload_n 3, 1) := by decide +kernel
theorem dX8_more_29 : decode cX8_more 29 = .ok (.getfield 153, 3) := by decide +kernel
theorem dX8_more_32 : decode cX8_more 32 = .ok (.ifCond .eq 6, 3) := by decide +kernel
theorem dX8_more_35 : decode cX8_more 35 = .ok (.bipush (-2), 2) := by decide +kernel
theorem dX8_more_37 : decode cX8_more 37 = .ok (.ireturn, 1) := by decide +kernel
theorem dX8_more_38 : decode cX8_more 38 = .ok (.aload_n 2, 1) := by decide +kernel
theorem dX8_more_39 : decode cX8_more 39 = .ok (.aload_n 3, 1) := by decide +kernel
theorem dX8_more_4 : decode cX8_more 4 = .ok (.ifCond .ne 5, 3) := by decide +kernel
theorem dX8_more_40 : decode cX8_more 40 = .ok (.iload_n 1, 1) := by decide +kernel
theorem dX8_more_41 : decode cX8_more 41 = .ok (.invokevirtual 168, 3) := by decide +kernel
theorem dX8_more_44 : decode cX8_more 44 = .ok (.ireturn, 1) := by decide +kernel
theorem dX8_more_7 : decode cX8_more 7 = .ok (.iconst (-1), 1) := by decide +kernel
theorem dX8_more_8 : decode cX8_more 8 = .ok (.ireturn, 1) := by decide +kernel
theorem dX8_more_9 : decode cX8_more 9 = .ok (.aload_n 0, 1) := by decide +kernel