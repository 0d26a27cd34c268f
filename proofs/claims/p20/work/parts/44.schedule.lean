theorem dX8_schedule_0 : decode cX8_schedule 0 = .ok (.aload_n 0, 1) := by decide +kernel
theorem dX8_schedule_1 : decode cX8_schedule 1 = .ok (.getfield 79, 3) := by decide +kernel
theorem dX8_schedule_11 : decode cX8_schedule 11 = .ok (.ifCond .ne 5, 3) := by decide +kernel
theorem dX8_schedule_14 : decode cX8_schedule 14 = .ok (.iconst (-1), 1) := by decide +kernel
theorem dX8_schedule_15 : decode cX8_schedule 15 = .ok (.ireturn, 1) := by decide +kernel
theorem dX8_schedule_16 : decode cX8_schedule 16 = .ok (.aload_n 0, 1) := by decide +kernel
theorem dX8_schedule_17 : decode cX8_schedule 17 = .ok (.iload_n 1, 1) := by decide +kernel
theorem dX8_schedule_18 : decode cX8_schedule 18 = .ok (.invokevirtual 149, 3) := by decide +kernel
theorem dX8_schedule_21 : decode cX8_schedule 21 = .ok (.astore 4, 2) := by decide +kernel
theorem dX8_schedule_23 : decode cX8_schedule 23 = .ok (.aload 4, 2) := by decide +kernel
theorem dX8_schedule_25 : decode cX8_schedule 25 = .ok (.iload_n 2, 1) := by decide +kernel
theorem dX8_schedule_26 : decode cX8_schedule 26 = .ok (.invokevirtual 159, 3) := by decide +kernel
theorem dX8_schedule_29 : decode cX8_schedule 29 = .ok (.ifCond .eq 13, 3) := by decide +kernel
theorem dX8_schedule_32 : decode cX8_schedule 32 = .ok (.aload 4, 2) := by decide +kernel
theorem dX8_schedule_34 : decode cX8_schedule 34 = .ok (.iload_n 2, 1) := by decide +kernel
theorem dX8_schedule_35 : decode cX8_schedule 35 = .ok (.iload_n 3, 1) := by decide +kernel
theorem dX8_schedule_36 : decode cX8_schedule 36 = .ok (.invokevirtual 165, 3) := by decide +kernel
theorem dX8_schedule_39 : decode cX8_schedule 39 = .ok (.goto 4, 3) := by decide +kernel
theorem dX8_schedule_4 : decode cX8_schedule 4 = .ok (.ifCond .eq 10, 3) := by decide +kernel
theorem dX8_schedule_42 : decode cX8_schedule 42 = .ok (.iconst (-1), 1) := by decide +kernel
theorem dX8_schedule_43 : decode cX8_schedule 43 = .ok (.ireturn, 1) := by decide +kernel
theorem dX8_schedule_7 : decode cX8_schedule 7 = .ok (.iload_n 1, 1) := by decide +kernel
theorem dX8_schedule_8 : decode cX8_schedule 8 = .ok (.invokestatic 111, 3) := by decide +kernel