theorem dX2_fill_0 : decode cX2_fill 0 = .ok (.aload_n 0, 1) := by decide +kernel
theorem dX2_fill_1 : decode cX2_fill 1 = .ok (.iconst 1, 1) := by decide +kernel
theorem dX2_fill_10 : decode cX2_fill 10 = .ok (.iconst 1, 1) := by decide +kernel
theorem dX2_fill_100 : decode cX2_fill 100 = .ok (.return_, 1) := by decide +kernel
theorem dX2_fill_11 : decode cX2_fill 11 = .ok (.goto 4, 3) := by decide +kernel
theorem dX2_fill_14 : decode cX2_fill 14 = .ok (.iconst 0, 1) := by decide +kernel
theorem dX2_fill_15 : decode cX2_fill 15 = .ok (.putfield 19, 3) := by decide +kernel
theorem dX2_fill_18 : decode cX2_fill 18 = .ok (.aload_n 0, 1) := by decide +kernel
theorem dX2_fill_19 : decode cX2_fill 19 = .ok (.aload_n 1, 1) := by decide +kernel
theorem dX2_fill_2 : decode cX2_fill 2 = .ok (.putfield 15, 3) := by decide +kernel
theorem dX2_fill_20 : decode cX2_fill 20 = .ok (.getfield 22, 3) := by decide +kernel
theorem dX2_fill_23 : decode cX2_fill 23 = .ok (.putfield 28, 3) := by decide +kernel
theorem dX2_fill_26 : decode cX2_fill 26 = .ok (.aload_n 0, 1) := by decide +kernel
theorem dX2_fill_27 : decode cX2_fill 27 = .ok (.iload_n 2, 1) := by decide +kernel
theorem dX2_fill_28 : decode cX2_fill 28 = .ok (.ifCond .eq 10, 3) := by decide +kernel
theorem dX2_fill_31 : decode cX2_fill 31 = .ok (.aload_n 1, 1) := by decide +kernel
theorem dX2_fill_32 : decode cX2_fill 32 = .ok (.getfield 31, 3) := by decide +kernel
theorem dX2_fill_35 : decode cX2_fill 35 = .ok (.goto 4, 3) := by decide +kernel
theorem dX2_fill_38 : decode cX2_fill 38 = .ok (.iconst 0, 1) := by decide +kernel
theorem dX2_fill_39 : decode cX2_fill 39 = .ok (.putfield 34, 3) := by decide +kernel
theorem dX2_fill_42 : decode cX2_fill 42 = .ok (.aload_n 0, 1) := by decide +kernel
theorem dX2_fill_43 : decode cX2_fill 43 = .ok (.getfield 34, 3) := by decide +kernel
theorem dX2_fill_46 : decode cX2_fill 46 = .ok (.bipush 17, 2) := by decide +kernel
theorem dX2_fill_48 : decode cX2_fill 48 = .ok (.imul, 1) := by decide +kernel
theorem dX2_fill_49 : decode cX2_fill 49 = .ok (.aload_n 0, 1) := by decide +kernel
theorem dX2_fill_5 : decode cX2_fill 5 = .ok (.aload_n 0, 1) := by decide +kernel
theorem dX2_fill_50 : decode cX2_fill 50 = .ok (.getfield 11, 3) := by decide +kernel
theorem dX2_fill_53 : decode cX2_fill 53 = .ok (.arraylength, 1) := by decide +kernel
theorem dX2_fill_54 : decode cX2_fill 54 = .ok (.if_icmp .le 24, 3) := by decide +kernel
theorem dX2_fill_57 : decode cX2_fill 57 = .ok (.aload_n 0, 1) := by decide +kernel
theorem dX2_fill_58 : decode cX2_fill 58 = .ok (.iconst 2, 1) := by decide +kernel
theorem dX2_fill_59 : decode cX2_fill 59 = .ok (.aload_n 0, 1) := by decide +kernel
theorem dX2_fill_6 : decode cX2_fill 6 = .ok (.iload_n 2, 1) := by decide +kernel
theorem dX2_fill_60 : decode cX2_fill 60 = .ok (.getfield 34, 3) := by decide +kernel
theorem dX2_fill_63 : decode cX2_fill 63 = .ok (.imul, 1) := by decide +kernel
theorem dX2_fill_64 : decode cX2_fill 64 = .ok (.sipush 3000, 3) := by decide +kernel
theorem dX2_fill_67 : decode cX2_fill 67 = .ok (.invokestatic 35, 3) := by decide +kernel
theorem dX2_fill_7 : decode cX2_fill 7 = .ok (.ifCond .ne 7, 3) := by decide +kernel
theorem dX2_fill_70 : decode cX2_fill 70 = .ok (.bipush 17, 2) := by decide +kernel
theorem dX2_fill_72 : decode cX2_fill 72 = .ok (.imul, 1) := by decide +kernel
theorem dX2_fill_73 : decode cX2_fill 73 = .ok (.newarray .int, 2) := by decide +kernel
theorem dX2_fill_75 : decode cX2_fill 75 = .ok (.putfield 11, 3) := by decide +kernel
theorem dX2_fill_78 : decode cX2_fill 78 = .ok (.iconst 0, 1) := by decide +kernel
theorem dX2_fill_79 : decode cX2_fill 79 = .ok (.istore_n 3, 1) := by decide +kernel
theorem dX2_fill_80 : decode cX2_fill 80 = .ok (.iload_n 3, 1) := by decide +kernel
theorem dX2_fill_81 : decode cX2_fill 81 = .ok (.aload_n 0, 1) := by decide +kernel
theorem dX2_fill_82 : decode cX2_fill 82 = .ok (.getfield 34, 3) := by decide +kernel
theorem dX2_fill_85 : decode cX2_fill 85 = .ok (.if_icmp .ge 15, 3) := by decide +kernel
theorem dX2_fill_88 : decode cX2_fill 88 = .ok (.aload_n 0, 1) := by decide +kernel
theorem dX2_fill_89 : decode cX2_fill 89 = .ok (.aload_n 1, 1) := by decide +kernel
theorem dX2_fill_90 : decode cX2_fill 90 = .ok (.iload_n 3, 1) := by decide +kernel
theorem dX2_fill_91 : decode cX2_fill 91 = .ok (.invokevirtual 41, 3) := by decide +kernel
theorem dX2_fill_94 : decode cX2_fill 94 = .ok (.iinc 3 1, 3) := by decide +kernel
theorem dX2_fill_97 : decode cX2_fill 97 = .ok (.goto (-17), 3) := by decide +kernel