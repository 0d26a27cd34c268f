theorem dX3_start_0 : decode cX3_start 0 = .ok (.aload_n 0, 1) := by decide +kernel
theorem dX3_start_1 : decode cX3_start 1 = .ok (.iconst 1, 1) := by decide +kernel
theorem dX3_start_10 : decode cX3_start 10 = .ok (.aload_n 0, 1) := by decide +kernel
theorem dX3_start_11 : decode cX3_start 11 = .ok (.iconst 0, 1) := by decide +kernel
theorem dX3_start_12 : decode cX3_start 12 = .ok (.putfield 30, 3) := by decide +kernel
theorem dX3_start_15 : decode cX3_start 15 = .ok (.aload_n 0, 1) := by decide +kernel
theorem dX3_start_16 : decode cX3_start 16 = .ok (.getfield 12, 3) := by decide +kernel
theorem dX3_start_19 : decode cX3_start 19 = .ok (.aload_n 1, 1) := by decide +kernel
theorem dX3_start_2 : decode cX3_start 2 = .ok (.putfield 22, 3) := by decide +kernel
theorem dX3_start_20 : decode cX3_start 20 = .ok (.invokevirtual 33, 3) := by decide +kernel
theorem dX3_start_23 : decode cX3_start 23 = .ok (.return_, 1) := by decide +kernel
theorem dX3_start_5 : decode cX3_start 5 = .ok (.aload_n 0, 1) := by decide +kernel
theorem dX3_start_6 : decode cX3_start 6 = .ok (.iload_n 2, 1) := by decide +kernel
theorem dX3_start_7 : decode cX3_start 7 = .ok (.putfield 26, 3) := by decide +kernel
theorem dX8_hasCore_0 : decode cX8_hasCore 0 = .ok (.aload_n 0, 1) := by decide +kernel
theorem dX8_hasCore_1 : decode cX8_hasCore 1 = .ok (.getfield 79, 3) := by decide +kernel
theorem dX8_hasCore_11 : decode cX8_hasCore 11 = .ok (.iload_n 1, 1) := by decide +kernel
theorem dX8_hasCore_12 : decode cX8_hasCore 12 = .ok (.aload_n 0, 1) := by decide +kernel
theorem dX8_hasCore_13 : decode cX8_hasCore 13 = .ok (.getfield 27, 3) := by decide +kernel
theorem dX8_hasCore_16 : decode cX8_hasCore 16 = .ok (.getfield 108, 3) := by decide +kernel
theorem dX8_hasCore_19 : decode cX8_hasCore 19 = .ok (.if_icmp .ge 7, 3) := by decide +kernel
theorem dX8_hasCore_22 : decode cX8_hasCore 22 = .ok (.iconst 1, 1) := by decide +kernel
theorem dX8_hasCore_23 : decode cX8_hasCore 23 = .ok (.goto 4, 3) := by decide +kernel
theorem dX8_hasCore_26 : decode cX8_hasCore 26 = .ok (.iconst 0, 1) := by decide +kernel
theorem dX8_hasCore_27 : decode cX8_hasCore 27 = .ok (.ireturn, 1) := by decide +kernel
theorem dX8_hasCore_4 : decode cX8_hasCore 4 = .ok (.ifCond .eq 22, 3) := by decide +kernel
theorem dX8_hasCore_7 : decode cX8_hasCore 7 = .ok (.iload_n 1, 1) := by decide +kernel
theorem dX8_hasCore_8 : decode cX8_hasCore 8 = .ok (.ifCond .lt 18, 3) := by decide +kernel