theorem dX8_outcome_0 : decode cX8_outcome 0 = .ok (.aload_n 0, 1) := by decide +kernel
theorem dX8_outcome_1 : decode cX8_outcome 1 = .ok (.getfield 79, 3) := by decide +kernel
theorem dX8_outcome_11 : decode cX8_outcome 11 = .ok (.ifCond .eq 13, 3) := by decide +kernel
theorem dX8_outcome_14 : decode cX8_outcome 14 = .ok (.iload_n 3, 1) := by decide +kernel
theorem dX8_outcome_15 : decode cX8_outcome 15 = .ok (.ifCond .lt 9, 3) := by decide +kernel
theorem dX8_outcome_18 : decode cX8_outcome 18 = .ok (.iload_n 3, 1) := by decide +kernel
theorem dX8_outcome_19 : decode cX8_outcome 19 = .ok (.bipush 13, 2) := by decide +kernel
theorem dX8_outcome_21 : decode cX8_outcome 21 = .ok (.if_icmp .lt 5, 3) := by decide +kernel
theorem dX8_outcome_24 : decode cX8_outcome 24 = .ok (.iconst 0, 1) := by decide +kernel
theorem dX8_outcome_25 : decode cX8_outcome 25 = .ok (.ireturn, 1) := by decide +kernel
theorem dX8_outcome_26 : decode cX8_outcome 26 = .ok (.aload_n 0, 1) := by decide +kernel
theorem dX8_outcome_27 : decode cX8_outcome 27 = .ok (.iload_n 1, 1) := by decide +kernel
theorem dX8_outcome_28 : decode cX8_outcome 28 = .ok (.invokevirtual 149, 3) := by decide +kernel
theorem dX8_outcome_31 : decode cX8_outcome 31 = .ok (.astore 4, 2) := by decide +kernel
theorem dX8_outcome_33 : decode cX8_outcome 33 = .ok (.aload 4, 2) := by decide +kernel
theorem dX8_outcome_35 : decode cX8_outcome 35 = .ok (.iload_n 2, 1) := by decide +kernel
theorem dX8_outcome_36 : decode cX8_outcome 36 = .ok (.invokevirtual 159, 3) := by decide +kernel
theorem dX8_outcome_39 : decode cX8_outcome 39 = .ok (.ifCond .eq 13, 3) := by decide +kernel
theorem dX8_outcome_4 : decode cX8_outcome 4 = .ok (.ifCond .eq 20, 3) := by decide +kernel
theorem dX8_outcome_42 : decode cX8_outcome 42 = .ok (.aload 4, 2) := by decide +kernel
theorem dX8_outcome_44 : decode cX8_outcome 44 = .ok (.iload_n 2, 1) := by decide +kernel
theorem dX8_outcome_45 : decode cX8_outcome 45 = .ok (.iload_n 3, 1) := by decide +kernel
theorem dX8_outcome_46 : decode cX8_outcome 46 = .ok (.invokevirtual 162, 3) := by decide +kernel
theorem dX8_outcome_49 : decode cX8_outcome 49 = .ok (.goto 4, 3) := by decide +kernel
theorem dX8_outcome_52 : decode cX8_outcome 52 = .ok (.iconst 0, 1) := by decide +kernel
theorem dX8_outcome_53 : decode cX8_outcome 53 = .ok (.ireturn, 1) := by decide +kernel
theorem dX8_outcome_7 : decode cX8_outcome 7 = .ok (.iload_n 1, 1) := by decide +kernel
theorem dX8_outcome_8 : decode cX8_outcome 8 = .ok (.invokestatic 111, 3) := by decide +kernel