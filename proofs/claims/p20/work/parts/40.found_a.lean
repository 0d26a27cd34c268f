theorem dX8_found_0 : decode cX8_found 0 = .ok (.iload_n 1, 1) := by decide +kernel
theorem dX8_found_1 : decode cX8_found 1 = .ok (.iconst 1, 1) := by decide +kernel
theorem dX8_found_16 : decode cX8_found 16 = .ok (.astore_n 2, 1) := by decide +kernel
theorem dX8_found_17 : decode cX8_found 17 = .ok (.aload_n 2, 1) := by decide +kernel
theorem dX8_found_18 : decode cX8_found 18 = .ok (.getfield 89, 3) := by decide +kernel
theorem dX8_found_2 : decode cX8_found 2 = .ok (.if_icmp .ne 10, 3) := by decide +kernel
theorem dX8_found_21 : decode cX8_found 21 = .ok (.ifCond .ne 22, 3) := by decide +kernel
theorem dX8_found_24 : decode cX8_found 24 = .ok (.aload_n 0, 1) := by decide +kernel
theorem dX8_found_25 : decode cX8_found 25 = .ok (.invokevirtual 181, 3) := by decide +kernel
theorem dX8_found_28 : decode cX8_found 28 = .ok (.astore_n 3, 1) := by decide +kernel
theorem dX8_found_29 : decode cX8_found 29 = .ok (.aload_n 2, 1) := by decide +kernel
theorem dX8_found_30 : decode cX8_found 30 = .ok (.aload_n 3, 1) := by decide +kernel
theorem dX8_found_31 : decode cX8_found 31 = .ok (.aload_n 3, 1) := by decide +kernel
theorem dX8_found_32 : decode cX8_found 32 = .ok (.aload_n 0, 1) := by decide +kernel
theorem dX8_found_33 : decode cX8_found 33 = .ok (.getfield 27, 3) := by decide +kernel
theorem dX8_found_36 : decode cX8_found 36 = .ok (.iload_n 1, 1) := by decide +kernel
theorem dX8_found_37 : decode cX8_found 37 = .ok (.invokevirtual 218, 3) := by decide +kernel
theorem dX8_found_40 : decode cX8_found 40 = .ok (.invokevirtual 223, 3) := by decide +kernel
theorem dX8_found_43 : decode cX8_found 43 = .ok (.aload_n 2, 1) := by decide +kernel
theorem dX8_found_44 : decode cX8_found 44 = .ok (.areturn, 1) := by decide +kernel
theorem dX8_found_5 : decode cX8_found 5 = .ok (.aload_n 0, 1) := by decide +kernel
theorem dX8_found_6 : decode cX8_found 6 = .ok (.getfield 41, 3) := by decide +kernel
theorem dX8_found_9 : decode cX8_found 9 = .ok (.goto 7, 3) := by decide +kernel