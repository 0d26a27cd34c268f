theorem dX8_findRace_0 : decode cX8_findRace 0 = .ok (.aload_n 0, 1) := by decide +kernel
theorem dX8_findRace_1 : decode cX8_findRace 1 = .ok (.getfield 51, 3) := by decide +kernel
theorem dX8_findRace_10 : decode cX8_findRace 10 = .ok (.aload_n 0, 1) := by decide +kernel
theorem dX8_findRace_11 : decode cX8_findRace 11 = .ok (.getfield 51, 3) := by decide +kernel
theorem dX8_findRace_14 : decode cX8_findRace 14 = .ok (.aload_n 0, 1) := by decide +kernel
theorem dX8_findRace_15 : decode cX8_findRace 15 = .ok (.getfield 27, 3) := by decide +kernel
theorem dX8_findRace_18 : decode cX8_findRace 18 = .ok (.aload_n 0, 1) := by decide +kernel
theorem dX8_findRace_19 : decode cX8_findRace 19 = .ok (.invokevirtual 181, 3) := by decide +kernel
theorem dX8_findRace_22 : decode cX8_findRace 22 = .ok (.invokevirtual 185, 3) := by decide +kernel
theorem dX8_findRace_25 : decode cX8_findRace 25 = .ok (.return_, 1) := by decide +kernel
theorem dX8_findRace_4 : decode cX8_findRace 4 = .ok (.getfield 92, 3) := by decide +kernel
theorem dX8_findRace_7 : decode cX8_findRace 7 = .ok (.ifCond .ne 18, 3) := by decide +kernel