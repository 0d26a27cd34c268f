theorem dX9_begin_0 : decode cX9_begin 0 = .ok (.aload_n 0, 1) := by decide +kernel
theorem dX9_begin_1 : decode cX9_begin 1 = .ok (.getfield 224, 3) := by decide +kernel
theorem dX9_begin_11 : decode cX9_begin 11 = .ok (.iload_n 1, 1) := by decide +kernel
theorem dX9_begin_12 : decode cX9_begin 12 = .ok (.iconst 1, 1) := by decide +kernel
theorem dX9_begin_13 : decode cX9_begin 13 = .ok (.if_icmp .le 5, 3) := by decide +kernel
theorem dX9_begin_16 : decode cX9_begin 16 = .ok (.iconst 0, 1) := by decide +kernel
theorem dX9_begin_17 : decode cX9_begin 17 = .ok (.ireturn, 1) := by decide +kernel
theorem dX9_begin_18 : decode cX9_begin 18 = .ok (.aload_n 0, 1) := by decide +kernel
theorem dX9_begin_19 : decode cX9_begin 19 = .ok (.invokevirtual 300, 3) := by decide +kernel
theorem dX9_begin_22 : decode cX9_begin 22 = .ok (.aload_n 0, 1) := by decide +kernel
theorem dX9_begin_23 : decode cX9_begin 23 = .ok (.invokevirtual 338, 3) := by decide +kernel
theorem dX9_begin_26 : decode cX9_begin 26 = .ok (.aload_n 0, 1) := by decide +kernel
theorem dX9_begin_27 : decode cX9_begin 27 = .ok (.iload_n 1, 1) := by decide +kernel
theorem dX9_begin_28 : decode cX9_begin 28 = .ok (.putfield 84, 3) := by decide +kernel
theorem dX9_begin_31 : decode cX9_begin 31 = .ok (.aload_n 0, 1) := by decide +kernel
theorem dX9_begin_32 : decode cX9_begin 32 = .ok (.iconst 0, 1) := by decide +kernel
theorem dX9_begin_33 : decode cX9_begin 33 = .ok (.putfield 227, 3) := by decide +kernel
theorem dX9_begin_36 : decode cX9_begin 36 = .ok (.iconst 1, 1) := by decide +kernel
theorem dX9_begin_37 : decode cX9_begin 37 = .ok (.ireturn, 1) := by decide +kernel
theorem dX9_begin_4 : decode cX9_begin 4 = .ok (.ifCond .eq 12, 3) := by decide +kernel
theorem dX9_begin_7 : decode cX9_begin 7 = .ok (.iload_n 1, 1) := by decide +kernel
theorem dX9_begin_8 : decode cX9_begin 8 = .ok (.ifCond .lt 8, 3) := by decide +kernel
theorem dX9_nextOf_0 : decode cX9_nextOf 0 = .ok (.aload_n 0, 1) := by decide +kernel
theorem dX9_nextOf_1 : decode cX9_nextOf 1 = .ok (.getfield 44, 3) := by decide +kernel
theorem dX9_nextOf_11 : decode cX9_nextOf 11 = .ok (.imul, 1) := by decide +kernel
theorem dX9_nextOf_12 : decode cX9_nextOf 12 = .ok (.iload_n 2, 1) := by decide +kernel
theorem dX9_nextOf_13 : decode cX9_nextOf 13 = .ok (.iadd, 1) := by decide +kernel
theorem dX9_nextOf_14 : decode cX9_nextOf 14 = .ok (.iaload, 1) := by decide +kernel
theorem dX9_nextOf_15 : decode cX9_nextOf 15 = .ok (.istore_n 3, 1) := by decide +kernel
theorem dX9_nextOf_16 : decode cX9_nextOf 16 = .ok (.iload_n 2, 1) := by decide +kernel
theorem dX9_nextOf_17 : decode cX9_nextOf 17 = .ok (.aload_n 0, 1) := by decide +kernel
theorem dX9_nextOf_18 : decode cX9_nextOf 18 = .ok (.getfield 7, 3) := by decide +kernel
theorem dX9_nextOf_21 : decode cX9_nextOf 21 = .ok (.iconst 0, 1) := by decide +kernel
theorem dX9_nextOf_22 : decode cX9_nextOf 22 = .ok (.iaload, 1) := by decide +kernel
theorem dX9_nextOf_23 : decode cX9_nextOf 23 = .ok (.if_icmp .ge 22, 3) := by decide +kernel
theorem dX9_nextOf_26 : decode cX9_nextOf 26 = .ok (.iload_n 3, 1) := by decide +kernel
theorem dX9_nextOf_27 : decode cX9_nextOf 27 = .ok (.aload_n 0, 1) := by decide +kernel
theorem dX9_nextOf_28 : decode cX9_nextOf 28 = .ok (.getfield 13, 3) := by decide +kernel
theorem dX9_nextOf_31 : decode cX9_nextOf 31 = .ok (.iload_n 2, 1) := by decide +kernel
theorem dX9_nextOf_32 : decode cX9_nextOf 32 = .ok (.iaload, 1) := by decide +kernel
theorem dX9_nextOf_33 : decode cX9_nextOf 33 = .ok (.if_icmp .ge 12, 3) := by decide +kernel
theorem dX9_nextOf_36 : decode cX9_nextOf 36 = .ok (.bipush 12, 2) := by decide +kernel
theorem dX9_nextOf_38 : decode cX9_nextOf 38 = .ok (.iload_n 2, 1) := by decide +kernel
theorem dX9_nextOf_39 : decode cX9_nextOf 39 = .ok (.imul, 1) := by decide +kernel
theorem dX9_nextOf_4 : decode cX9_nextOf 4 = .ok (.sipush 6000, 3) := by decide +kernel
theorem dX9_nextOf_40 : decode cX9_nextOf 40 = .ok (.iload_n 3, 1) := by decide +kernel
theorem dX9_nextOf_41 : decode cX9_nextOf 41 = .ok (.iadd, 1) := by decide +kernel
theorem dX9_nextOf_42 : decode cX9_nextOf 42 = .ok (.goto 4, 3) := by decide +kernel
theorem dX9_nextOf_45 : decode cX9_nextOf 45 = .ok (.iconst (-1), 1) := by decide +kernel
theorem dX9_nextOf_46 : decode cX9_nextOf 46 = .ok (.ireturn, 1) := by decide +kernel
theorem dX9_nextOf_7 : decode cX9_nextOf 7 = .ok (.iload_n 1, 1) := by decide +kernel
theorem dX9_nextOf_8 : decode cX9_nextOf 8 = .ok (.iadd, 1) := by decide +kernel
theorem dX9_nextOf_9 : decode cX9_nextOf 9 = .ok (.bipush 58, 2) := by decide +kernel