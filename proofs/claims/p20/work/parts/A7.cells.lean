theorem dX6_checkSkips_0 : decode cX6_checkSkips 0 = .ok (.iconst 0, 1) := by decide +kernel
theorem dX6_checkSkips_1 : decode cX6_checkSkips 1 = .ok (.istore_n 2, 1) := by decide +kernel
theorem dX6_checkSkips_10 : decode cX6_checkSkips 10 = .ok (.iload_n 1, 1) := by decide +kernel
theorem dX6_checkSkips_11 : decode cX6_checkSkips 11 = .ok (.iaload, 1) := by decide +kernel
theorem dX6_checkSkips_12 : decode cX6_checkSkips 12 = .ok (.if_icmp .ge 46, 3) := by decide +kernel
theorem dX6_checkSkips_15 : decode cX6_checkSkips 15 = .ok (.aload_n 0, 1) := by decide +kernel
theorem dX6_checkSkips_16 : decode cX6_checkSkips 16 = .ok (.getfield 12, 3) := by decide +kernel
theorem dX6_checkSkips_19 : decode cX6_checkSkips 19 = .ok (.iload_n 1, 1) := by decide +kernel
theorem dX6_checkSkips_2 : decode cX6_checkSkips 2 = .ok (.iload_n 2, 1) := by decide +kernel
theorem dX6_checkSkips_20 : decode cX6_checkSkips 20 = .ok (.iload_n 2, 1) := by decide +kernel
theorem dX6_checkSkips_21 : decode cX6_checkSkips 21 = .ok (.bipush 7, 2) := by decide +kernel
theorem dX6_checkSkips_23 : decode cX6_checkSkips 23 = .ok (.invokevirtual 177, 3) := by decide +kernel
theorem dX6_checkSkips_26 : decode cX6_checkSkips 26 = .ok (.aload_n 0, 1) := by decide +kernel
theorem dX6_checkSkips_27 : decode cX6_checkSkips 27 = .ok (.getfield 12, 3) := by decide +kernel
theorem dX6_checkSkips_3 : decode cX6_checkSkips 3 = .ok (.aload_n 0, 1) := by decide +kernel
theorem dX6_checkSkips_30 : decode cX6_checkSkips 30 = .ok (.getfield 174, 3) := by decide +kernel
theorem dX6_checkSkips_33 : decode cX6_checkSkips 33 = .ok (.iload_n 1, 1) := by decide +kernel
theorem dX6_checkSkips_34 : decode cX6_checkSkips 34 = .ok (.iaload, 1) := by decide +kernel
theorem dX6_checkSkips_35 : decode cX6_checkSkips 35 = .ok (.iconst 1, 1) := by decide +kernel
theorem dX6_checkSkips_36 : decode cX6_checkSkips 36 = .ok (.isub, 1) := by decide +kernel
theorem dX6_checkSkips_37 : decode cX6_checkSkips 37 = .ok (.iload_n 2, 1) := by decide +kernel
theorem dX6_checkSkips_38 : decode cX6_checkSkips 38 = .ok (.isub, 1) := by decide +kernel
theorem dX6_checkSkips_39 : decode cX6_checkSkips 39 = .ok (.if_icmp .le 13, 3) := by decide +kernel
theorem dX6_checkSkips_4 : decode cX6_checkSkips 4 = .ok (.getfield 12, 3) := by decide +kernel
theorem dX6_checkSkips_42 : decode cX6_checkSkips 42 = .ok (.aload_n 0, 1) := by decide +kernel
theorem dX6_checkSkips_43 : decode cX6_checkSkips 43 = .ok (.aload_n 0, 1) := by decide +kernel
theorem dX6_checkSkips_44 : decode cX6_checkSkips 44 = .ok (.getfield 32, 3) := by decide +kernel
theorem dX6_checkSkips_47 : decode cX6_checkSkips 47 = .ok (.iload_n 2, 1) := by decide +kernel
theorem dX6_checkSkips_48 : decode cX6_checkSkips 48 = .ok (.iaload, 1) := by decide +kernel
theorem dX6_checkSkips_49 : decode cX6_checkSkips 49 = .ok (.invokevirtual 115, 3) := by decide +kernel
theorem dX6_checkSkips_52 : decode cX6_checkSkips 52 = .ok (.iinc 2 1, 3) := by decide +kernel
theorem dX6_checkSkips_55 : decode cX6_checkSkips 55 = .ok (.goto (-53), 3) := by decide +kernel
theorem dX6_checkSkips_58 : decode cX6_checkSkips 58 = .ok (.return_, 1) := by decide +kernel
theorem dX6_checkSkips_7 : decode cX6_checkSkips 7 = .ok (.getfield 174, 3) := by decide +kernel
theorem dX6_readCellLine_0 : decode cX6_readCellLine 0 = .ok (.aload_n 0, 1) := by decide +kernel
theorem dX6_readCellLine_1 : decode cX6_readCellLine 1 = .ok (.bipush 9, 2) := by decide +kernel
theorem dX6_readCellLine_10 : decode cX6_readCellLine 10 = .ok (.invokevirtual 105, 3) := by decide +kernel
theorem dX6_readCellLine_100 : decode cX6_readCellLine 100 = .ok (.getfield 108, 3) := by decide +kernel
theorem dX6_readCellLine_103 : decode cX6_readCellLine 103 = .ok (.iastore, 1) := by decide +kernel
theorem dX6_readCellLine_104 : decode cX6_readCellLine 104 = .ok (.iconst 1, 1) := by decide +kernel
theorem dX6_readCellLine_105 : decode cX6_readCellLine 105 = .ok (.ireturn, 1) := by decide +kernel
theorem dX6_readCellLine_13 : decode cX6_readCellLine 13 = .ok (.ifCond .ne 5, 3) := by decide +kernel
theorem dX6_readCellLine_16 : decode cX6_readCellLine 16 = .ok (.iconst 0, 1) := by decide +kernel
theorem dX6_readCellLine_17 : decode cX6_readCellLine 17 = .ok (.ireturn, 1) := by decide +kernel
theorem dX6_readCellLine_18 : decode cX6_readCellLine 18 = .ok (.aload_n 0, 1) := by decide +kernel
theorem dX6_readCellLine_19 : decode cX6_readCellLine 19 = .ok (.getfield 108, 3) := by decide +kernel
theorem dX6_readCellLine_22 : decode cX6_readCellLine 22 = .ok (.istore_n 1, 1) := by decide +kernel
theorem dX6_readCellLine_23 : decode cX6_readCellLine 23 = .ok (.aload_n 0, 1) := by decide +kernel
theorem dX6_readCellLine_24 : decode cX6_readCellLine 24 = .ok (.getfield 45, 3) := by decide +kernel
theorem dX6_readCellLine_27 : decode cX6_readCellLine 27 = .ok (.iconst 1, 1) := by decide +kernel
theorem dX6_readCellLine_28 : decode cX6_readCellLine 28 = .ok (.isub, 1) := by decide +kernel
theorem dX6_readCellLine_29 : decode cX6_readCellLine 29 = .ok (.istore_n 2, 1) := by decide +kernel
theorem dX6_readCellLine_3 : decode cX6_readCellLine 3 = .ok (.invokevirtual 102, 3) := by decide +kernel
theorem dX6_readCellLine_30 : decode cX6_readCellLine 30 = .ok (.aload_n 0, 1) := by decide +kernel
theorem dX6_readCellLine_31 : decode cX6_readCellLine 31 = .ok (.bipush 19, 2) := by decide +kernel
theorem dX6_readCellLine_33 : decode cX6_readCellLine 33 = .ok (.invokevirtual 102, 3) := by decide +kernel
theorem dX6_readCellLine_36 : decode cX6_readCellLine 36 = .ok (.ifCond .eq 20, 3) := by decide +kernel
theorem dX6_readCellLine_39 : decode cX6_readCellLine 39 = .ok (.aload_n 0, 1) := by decide +kernel
theorem dX6_readCellLine_40 : decode cX6_readCellLine 40 = .ok (.iconst 0, 1) := by decide +kernel
theorem dX6_readCellLine_41 : decode cX6_readCellLine 41 = .ok (.invokevirtual 111, 3) := by decide +kernel
theorem dX6_readCellLine_44 : decode cX6_readCellLine 44 = .ok (.ifCond .eq 12, 3) := by decide +kernel
theorem dX6_readCellLine_47 : decode cX6_readCellLine 47 = .ok (.aload_n 0, 1) := by decide +kernel
theorem dX6_readCellLine_48 : decode cX6_readCellLine 48 = .ok (.bipush 18, 2) := by decide +kernel
theorem dX6_readCellLine_50 : decode cX6_readCellLine 50 = .ok (.invokevirtual 102, 3) := by decide +kernel
theorem dX6_readCellLine_53 : decode cX6_readCellLine 53 = .ok (.ifCond .ne 5, 3) := by decide +kernel
theorem dX6_readCellLine_56 : decode cX6_readCellLine 56 = .ok (.iconst 0, 1) := by decide +kernel
theorem dX6_readCellLine_57 : decode cX6_readCellLine 57 = .ok (.ireturn, 1) := by decide +kernel
theorem dX6_readCellLine_58 : decode cX6_readCellLine 58 = .ok (.iload_n 1, 1) := by decide +kernel
theorem dX6_readCellLine_59 : decode cX6_readCellLine 59 = .ok (.iconst 4, 1) := by decide +kernel
theorem dX6_readCellLine_6 : decode cX6_readCellLine 6 = .ok (.ifCond .eq 10, 3) := by decide +kernel
theorem dX6_readCellLine_60 : decode cX6_readCellLine 60 = .ok (.if_icmp .ge 44, 3) := by decide +kernel
theorem dX6_readCellLine_63 : decode cX6_readCellLine 63 = .ok (.aload_n 0, 1) := by decide +kernel
theorem dX6_readCellLine_64 : decode cX6_readCellLine 64 = .ok (.getfield 48, 3) := by decide +kernel
theorem dX6_readCellLine_67 : decode cX6_readCellLine 67 = .ok (.iload_n 1, 1) := by decide +kernel
theorem dX6_readCellLine_68 : decode cX6_readCellLine 68 = .ok (.ishr, 1) := by decide +kernel
theorem dX6_readCellLine_69 : decode cX6_readCellLine 69 = .ok (.iconst 1, 1) := by decide +kernel
theorem dX6_readCellLine_70 : decode cX6_readCellLine 70 = .ok (.iand, 1) := by decide +kernel
theorem dX6_readCellLine_71 : decode cX6_readCellLine 71 = .ok (.ifCond .eq 8, 3) := by decide +kernel
theorem dX6_readCellLine_74 : decode cX6_readCellLine 74 = .ok (.aload_n 0, 1) := by decide +kernel
theorem dX6_readCellLine_75 : decode cX6_readCellLine 75 = .ok (.iload_n 2, 1) := by decide +kernel
theorem dX6_readCellLine_76 : decode cX6_readCellLine 76 = .ok (.invokevirtual 115, 3) := by decide +kernel
theorem dX6_readCellLine_79 : decode cX6_readCellLine 79 = .ok (.aload_n 0, 1) := by decide +kernel
theorem dX6_readCellLine_80 : decode cX6_readCellLine 80 = .ok (.dup, 1) := by decide +kernel
theorem dX6_readCellLine_81 : decode cX6_readCellLine 81 = .ok (.getfield 48, 3) := by decide +kernel
theorem dX6_readCellLine_84 : decode cX6_readCellLine 84 = .ok (.iconst 1, 1) := by decide +kernel
theorem dX6_readCellLine_85 : decode cX6_readCellLine 85 = .ok (.iload_n 1, 1) := by decide +kernel
theorem dX6_readCellLine_86 : decode cX6_readCellLine 86 = .ok (.ishl, 1) := by decide +kernel
theorem dX6_readCellLine_87 : decode cX6_readCellLine 87 = .ok (.ior, 1) := by decide +kernel
theorem dX6_readCellLine_88 : decode cX6_readCellLine 88 = .ok (.putfield 48, 3) := by decide +kernel
theorem dX6_readCellLine_9 : decode cX6_readCellLine 9 = .ok (.aload_n 0, 1) := by decide +kernel
theorem dX6_readCellLine_91 : decode cX6_readCellLine 91 = .ok (.aload_n 0, 1) := by decide +kernel
theorem dX6_readCellLine_92 : decode cX6_readCellLine 92 = .ok (.getfield 12, 3) := by decide +kernel
theorem dX6_readCellLine_95 : decode cX6_readCellLine 95 = .ok (.getfield 119, 3) := by decide +kernel
theorem dX6_readCellLine_98 : decode cX6_readCellLine 98 = .ok (.iload_n 1, 1) := by decide +kernel
theorem dX6_readCellLine_99 : decode cX6_readCellLine 99 = .ok (.aload_n 0, 1) := by decide +kernel
theorem dX6_readCells_0 : decode cX6_readCells 0 = .ok (.iconst 0, 1) := by decide +kernel
theorem dX6_readCells_1 : decode cX6_readCells 1 = .ok (.istore_n 1, 1) := by decide +kernel
theorem dX6_readCells_10 : decode cX6_readCells 10 = .ok (.getfield 22, 3) := by decide +kernel
theorem dX6_readCells_13 : decode cX6_readCells 13 = .ok (.aload_n 0, 1) := by decide +kernel
theorem dX6_readCells_14 : decode cX6_readCells 14 = .ok (.getfield 45, 3) := by decide +kernel
theorem dX6_readCells_17 : decode cX6_readCells 17 = .ok (.iaload, 1) := by decide +kernel
theorem dX6_readCells_18 : decode cX6_readCells 18 = .ok (.bipush 9, 2) := by decide +kernel
theorem dX6_readCells_2 : decode cX6_readCells 2 = .ok (.iload_n 1, 1) := by decide +kernel
theorem dX6_readCells_20 : decode cX6_readCells 20 = .ok (.if_icmp .ne 18, 3) := by decide +kernel
theorem dX6_readCells_23 : decode cX6_readCells 23 = .ok (.aload_n 0, 1) := by decide +kernel
theorem dX6_readCells_24 : decode cX6_readCells 24 = .ok (.invokevirtual 99, 3) := by decide +kernel
theorem dX6_readCells_27 : decode cX6_readCells 27 = .ok (.ifCond .ne 5, 3) := by decide +kernel
theorem dX6_readCells_3 : decode cX6_readCells 3 = .ok (.sipush 500, 3) := by decide +kernel
theorem dX6_readCells_30 : decode cX6_readCells 30 = .ok (.iconst 0, 1) := by decide +kernel
theorem dX6_readCells_31 : decode cX6_readCells 31 = .ok (.ireturn, 1) := by decide +kernel
theorem dX6_readCells_32 : decode cX6_readCells 32 = .ok (.iinc 1 1, 3) := by decide +kernel
theorem dX6_readCells_35 : decode cX6_readCells 35 = .ok (.goto (-33), 3) := by decide +kernel
theorem dX6_readCells_38 : decode cX6_readCells 38 = .ok (.iconst 1, 1) := by decide +kernel
theorem dX6_readCells_39 : decode cX6_readCells 39 = .ok (.ireturn, 1) := by decide +kernel
theorem dX6_readCells_6 : decode cX6_readCells 6 = .ok (.if_icmp .gt 32, 3) := by decide +kernel
theorem dX6_readCells_9 : decode cX6_readCells 9 = .ok (.aload_n 0, 1) := by decide +kernel