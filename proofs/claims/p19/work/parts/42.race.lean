theorem dX8_race_0 : decode cX8_race 0 = .ok (.aload_n 0, 1) := by decide +kernel
theorem dX8_race_1 : decode cX8_race 1 = .ok (.getfield 79, 3) := by decide +kernel
theorem dX8_race_10 : decode cX8_race 10 = .ok (.invokevirtual 172, 3) := by decide +kernel
theorem dX8_race_13 : decode cX8_race 13 = .ok (.aload_n 0, 1) := by decide +kernel
theorem dX8_race_14 : decode cX8_race 14 = .ok (.getfield 51, 3) := by decide +kernel
theorem dX8_race_17 : decode cX8_race 17 = .ok (.getfield 175, 3) := by decide +kernel
theorem dX8_race_20 : decode cX8_race 20 = .ok (.ireturn, 1) := by decide +kernel
theorem dX8_race_4 : decode cX8_race 4 = .ok (.ifCond .ne 5, 3) := by decide +kernel
theorem dX8_race_7 : decode cX8_race 7 = .ok (.iconst (-1), 1) := by decide +kernel
theorem dX8_race_8 : decode cX8_race 8 = .ok (.ireturn, 1) := by decide +kernel
theorem dX8_race_9 : decode cX8_race 9 = .ok (.aload_n 0, 1) := by decide +kernel
theorem dX8_racer_0 : decode cX8_racer 0 = .ok (.aload_n 0, 1) := by decide +kernel
theorem dX8_racer_1 : decode cX8_racer 1 = .ok (.getfield 79, 3) := by decide +kernel
theorem dX8_racer_10 : decode cX8_racer 10 = .ok (.invokevirtual 172, 3) := by decide +kernel
theorem dX8_racer_13 : decode cX8_racer 13 = .ok (.aload_n 0, 1) := by decide +kernel
theorem dX8_racer_14 : decode cX8_racer 14 = .ok (.getfield 51, 3) := by decide +kernel
theorem dX8_racer_17 : decode cX8_racer 17 = .ok (.iload_n 1, 1) := by decide +kernel
theorem dX8_racer_18 : decode cX8_racer 18 = .ok (.invokevirtual 178, 3) := by decide +kernel
theorem dX8_racer_21 : decode cX8_racer 21 = .ok (.ireturn, 1) := by decide +kernel
theorem dX8_racer_4 : decode cX8_racer 4 = .ok (.ifCond .ne 5, 3) := by decide +kernel
theorem dX8_racer_7 : decode cX8_racer 7 = .ok (.iconst (-1), 1) := by decide +kernel
theorem dX8_racer_8 : decode cX8_racer 8 = .ok (.ireturn, 1) := by decide +kernel
theorem dX8_racer_9 : decode cX8_racer 9 = .ok (.aload_n 0, 1) := by decide +kernel