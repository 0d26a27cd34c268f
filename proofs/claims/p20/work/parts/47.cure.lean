theorem dX8_cure_0 : decode cX8_cure 0 = .ok (.aload_n 0, 1) := by decide +kernel
theorem dX8_cure_1 : decode cX8_cure 1 = .ok (.getfield 79, 3) := by decide +kernel
theorem dX8_cure_11 : decode cX8_cure 11 = .ok (.iload_n 1, 1) := by decide +kernel
theorem dX8_cure_12 : decode cX8_cure 12 = .ok (.iconst 2, 1) := by decide +kernel
theorem dX8_cure_13 : decode cX8_cure 13 = .ok (.if_icmp .le 5, 3) := by decide +kernel
theorem dX8_cure_16 : decode cX8_cure 16 = .ok (.iconst (-1), 1) := by decide +kernel
theorem dX8_cure_17 : decode cX8_cure 17 = .ok (.ireturn, 1) := by decide +kernel
theorem dX8_cure_18 : decode cX8_cure 18 = .ok (.aload_n 0, 1) := by decide +kernel
theorem dX8_cure_19 : decode cX8_cure 19 = .ok (.iconst 0, 1) := by decide +kernel
theorem dX8_cure_20 : decode cX8_cure 20 = .ok (.invokevirtual 149, 3) := by decide +kernel
theorem dX8_cure_23 : decode cX8_cure 23 = .ok (.astore_n 2, 1) := by decide +kernel
theorem dX8_cure_24 : decode cX8_cure 24 = .ok (.aload_n 0, 1) := by decide +kernel
theorem dX8_cure_25 : decode cX8_cure 25 = .ok (.getfield 58, 3) := by decide +kernel
theorem dX8_cure_28 : decode cX8_cure 28 = .ok (.aload_n 0, 1) := by decide +kernel
theorem dX8_cure_29 : decode cX8_cure 29 = .ok (.getfield 27, 3) := by decide +kernel
theorem dX8_cure_32 : decode cX8_cure 32 = .ok (.aload_n 2, 1) := by decide +kernel
theorem dX8_cure_33 : decode cX8_cure 33 = .ok (.aload_n 0, 1) := by decide +kernel
theorem dX8_cure_34 : decode cX8_cure 34 = .ok (.invokevirtual 181, 3) := by decide +kernel
theorem dX8_cure_37 : decode cX8_cure 37 = .ok (.iload_n 1, 1) := by decide +kernel
theorem dX8_cure_38 : decode cX8_cure 38 = .ok (.invokevirtual 189, 3) := by decide +kernel
theorem dX8_cure_4 : decode cX8_cure 4 = .ok (.ifCond .eq 12, 3) := by decide +kernel
theorem dX8_cure_41 : decode cX8_cure 41 = .ok (.ireturn, 1) := by decide +kernel
theorem dX8_cure_7 : decode cX8_cure 7 = .ok (.iload_n 1, 1) := by decide +kernel
theorem dX8_cure_8 : decode cX8_cure 8 = .ok (.ifCond .lt 8, 3) := by decide +kernel