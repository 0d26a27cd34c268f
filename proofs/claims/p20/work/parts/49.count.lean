theorem dX8_count_0 : decode cX8_count 0 = .ok (.iload_n 1, 1) := by decide +kernel
theorem dX8_count_1 : decode cX8_count 1 = .ok (.ifCond .lt 9, 3) := by decide +kernel
theorem dX8_count_10 : decode cX8_count 10 = .ok (.iconst (-1), 1) := by decide +kernel
theorem dX8_count_11 : decode cX8_count 11 = .ok (.ireturn, 1) := by decide +kernel
theorem dX8_count_12 : decode cX8_count 12 = .ok (.iload_n 1, 1) := by decide +kernel
theorem dX8_count_13 : decode cX8_count 13 = .ok (.bipush 9, 2) := by decide +kernel
theorem dX8_count_15 : decode cX8_count 15 = .ok (.if_icmp .ne 8, 3) := by decide +kernel
theorem dX8_count_18 : decode cX8_count 18 = .ok (.aload_n 0, 1) := by decide +kernel
theorem dX8_count_19 : decode cX8_count 19 = .ok (.getfield 62, 3) := by decide +kernel
theorem dX8_count_22 : decode cX8_count 22 = .ok (.ireturn, 1) := by decide +kernel
theorem dX8_count_23 : decode cX8_count 23 = .ok (.aload_n 0, 1) := by decide +kernel
theorem dX8_count_24 : decode cX8_count 24 = .ok (.getfield 79, 3) := by decide +kernel
theorem dX8_count_27 : decode cX8_count 27 = .ok (.ifCond .eq 11, 3) := by decide +kernel
theorem dX8_count_30 : decode cX8_count 30 = .ok (.aload_n 0, 1) := by decide +kernel
theorem dX8_count_31 : decode cX8_count 31 = .ok (.iload_n 1, 1) := by decide +kernel
theorem dX8_count_32 : decode cX8_count 32 = .ok (.invokevirtual 196, 3) := by decide +kernel
theorem dX8_count_35 : decode cX8_count 35 = .ok (.goto 4, 3) := by decide +kernel
theorem dX8_count_38 : decode cX8_count 38 = .ok (.iconst 0, 1) := by decide +kernel
theorem dX8_count_39 : decode cX8_count 39 = .ok (.ireturn, 1) := by decide +kernel
theorem dX8_count_4 : decode cX8_count 4 = .ok (.iload_n 1, 1) := by decide +kernel
theorem dX8_count_5 : decode cX8_count 5 = .ok (.bipush 9, 2) := by decide +kernel
theorem dX8_count_7 : decode cX8_count 7 = .ok (.if_icmp .le 5, 3) := by decide +kernel