theorem dX9_isWithout_0 : decode cX9_isWithout 0 = .ok (.iconst 0, 1) := by decide +kernel
theorem dX9_isWithout_1 : decode cX9_isWithout 1 = .ok (.istore_n 2, 1) := by decide +kernel
theorem dX9_isWithout_12 : decode cX9_isWithout 12 = .ok (.aload_n 0, 1) := by decide +kernel
theorem dX9_isWithout_13 : decode cX9_isWithout 13 = .ok (.iconst 1, 1) := by decide +kernel
theorem dX9_isWithout_14 : decode cX9_isWithout 14 = .ok (.aload_n 0, 1) := by decide +kernel
theorem dX9_isWithout_15 : decode cX9_isWithout 15 = .ok (.getfield 69, 3) := by decide +kernel
theorem dX9_isWithout_18 : decode cX9_isWithout 18 = .ok (.sipush 3000, 3) := by decide +kernel
theorem dX9_isWithout_2 : decode cX9_isWithout 2 = .ok (.iload_n 2, 1) := by decide +kernel
theorem dX9_isWithout_21 : decode cX9_isWithout 21 = .ok (.iload_n 1, 1) := by decide +kernel
theorem dX9_isWithout_22 : decode cX9_isWithout 22 = .ok (.iadd, 1) := by decide +kernel
theorem dX9_isWithout_23 : decode cX9_isWithout 23 = .ok (.iaload, 1) := by decide +kernel
theorem dX9_isWithout_24 : decode cX9_isWithout 24 = .ok (.iconst 0, 1) := by decide +kernel
theorem dX9_isWithout_25 : decode cX9_isWithout 25 = .ok (.aload_n 0, 1) := by decide +kernel
theorem dX9_isWithout_26 : decode cX9_isWithout 26 = .ok (.getfield 69, 3) := by decide +kernel
theorem dX9_isWithout_29 : decode cX9_isWithout 29 = .ok (.iload_n 2, 1) := by decide +kernel
theorem dX9_isWithout_3 : decode cX9_isWithout 3 = .ok (.aload_n 0, 1) := by decide +kernel
theorem dX9_isWithout_30 : decode cX9_isWithout 30 = .ok (.iaload, 1) := by decide +kernel
theorem dX9_isWithout_31 : decode cX9_isWithout 31 = .ok (.invokevirtual 327, 3) := by decide +kernel
theorem dX9_isWithout_34 : decode cX9_isWithout 34 = .ok (.ifCond .ne 5, 3) := by decide +kernel
theorem dX9_isWithout_37 : decode cX9_isWithout 37 = .ok (.iconst 1, 1) := by decide +kernel
theorem dX9_isWithout_38 : decode cX9_isWithout 38 = .ok (.ireturn, 1) := by decide +kernel
theorem dX9_isWithout_39 : decode cX9_isWithout 39 = .ok (.iinc 2 1, 3) := by decide +kernel
theorem dX9_isWithout_4 : decode cX9_isWithout 4 = .ok (.getfield 72, 3) := by decide +kernel
theorem dX9_isWithout_42 : decode cX9_isWithout 42 = .ok (.goto (-40), 3) := by decide +kernel
theorem dX9_isWithout_45 : decode cX9_isWithout 45 = .ok (.iconst 0, 1) := by decide +kernel
theorem dX9_isWithout_46 : decode cX9_isWithout 46 = .ok (.ireturn, 1) := by decide +kernel
theorem dX9_isWithout_7 : decode cX9_isWithout 7 = .ok (.iconst 0, 1) := by decide +kernel
theorem dX9_isWithout_8 : decode cX9_isWithout 8 = .ok (.iaload, 1) := by decide +kernel
theorem dX9_isWithout_9 : decode cX9_isWithout 9 = .ok (.if_icmp .ge 36, 3) := by decide +kernel
theorem dX9_more_0 : decode cX9_more 0 = .ok (.aload_n 0, 1) := by decide +kernel
theorem dX9_more_1 : decode cX9_more 1 = .ok (.getfield 224, 3) := by decide +kernel
theorem dX9_more_10 : decode cX9_more 10 = .ok (.iconst 0, 1) := by decide +kernel
theorem dX9_more_11 : decode cX9_more 11 = .ok (.invokevirtual 347, 3) := by decide +kernel
theorem dX9_more_14 : decode cX9_more 14 = .ok (.istore_n 2, 1) := by decide +kernel
theorem dX9_more_15 : decode cX9_more 15 = .ok (.aload_n 0, 1) := by decide +kernel
theorem dX9_more_16 : decode cX9_more 16 = .ok (.iconst 1, 1) := by decide +kernel
theorem dX9_more_17 : decode cX9_more 17 = .ok (.invokevirtual 347, 3) := by decide +kernel
theorem dX9_more_20 : decode cX9_more 20 = .ok (.ifCond .eq 11, 3) := by decide +kernel
theorem dX9_more_23 : decode cX9_more 23 = .ok (.iload_n 2, 1) := by decide +kernel
theorem dX9_more_24 : decode cX9_more 24 = .ok (.ifCond .eq 7, 3) := by decide +kernel
theorem dX9_more_27 : decode cX9_more 27 = .ok (.iconst 1, 1) := by decide +kernel
theorem dX9_more_28 : decode cX9_more 28 = .ok (.goto 4, 3) := by decide +kernel
theorem dX9_more_31 : decode cX9_more 31 = .ok (.iconst 0, 1) := by decide +kernel
theorem dX9_more_32 : decode cX9_more 32 = .ok (.istore_n 2, 1) := by decide +kernel
theorem dX9_more_33 : decode cX9_more 33 = .ok (.iload_n 2, 1) := by decide +kernel
theorem dX9_more_34 : decode cX9_more 34 = .ok (.ifCond .ne 6, 3) := by decide +kernel
theorem dX9_more_37 : decode cX9_more 37 = .ok (.bipush (-2), 2) := by decide +kernel
theorem dX9_more_39 : decode cX9_more 39 = .ok (.ireturn, 1) := by decide +kernel
theorem dX9_more_4 : decode cX9_more 4 = .ok (.ifCond .ne 5, 3) := by decide +kernel
theorem dX9_more_40 : decode cX9_more 40 = .ok (.iconst 0, 1) := by decide +kernel
theorem dX9_more_41 : decode cX9_more 41 = .ok (.istore_n 3, 1) := by decide +kernel
theorem dX9_more_42 : decode cX9_more 42 = .ok (.iconst 0, 1) := by decide +kernel
theorem dX9_more_43 : decode cX9_more 43 = .ok (.istore 4, 2) := by decide +kernel
theorem dX9_more_45 : decode cX9_more 45 = .ok (.iload 4, 2) := by decide +kernel
theorem dX9_more_47 : decode cX9_more 47 = .ok (.aload_n 0, 1) := by decide +kernel
theorem dX9_more_48 : decode cX9_more 48 = .ok (.getfield 72, 3) := by decide +kernel
theorem dX9_more_51 : decode cX9_more 51 = .ok (.iconst 1, 1) := by decide +kernel
theorem dX9_more_52 : decode cX9_more 52 = .ok (.iaload, 1) := by decide +kernel
theorem dX9_more_53 : decode cX9_more 53 = .ok (.if_icmp .ge 29, 3) := by decide +kernel
theorem dX9_more_56 : decode cX9_more 56 = .ok (.aload_n 0, 1) := by decide +kernel
theorem dX9_more_57 : decode cX9_more 57 = .ok (.iload 4, 2) := by decide +kernel
theorem dX9_more_59 : decode cX9_more 59 = .ok (.invokevirtual 356, 3) := by decide +kernel
theorem dX9_more_62 : decode cX9_more 62 = .ok (.ifCond .ne 14, 3) := by decide +kernel
theorem dX9_more_65 : decode cX9_more 65 = .ok (.iload_n 3, 1) := by decide +kernel
theorem dX9_more_66 : decode cX9_more 66 = .ok (.iload_n 1, 1) := by decide +kernel
theorem dX9_more_67 : decode cX9_more 67 = .ok (.if_icmp .ne 6, 3) := by decide +kernel
theorem dX9_more_7 : decode cX9_more 7 = .ok (.iconst (-1), 1) := by decide +kernel
theorem dX9_more_70 : decode cX9_more 70 = .ok (.iload 4, 2) := by decide +kernel
theorem dX9_more_72 : decode cX9_more 72 = .ok (.ireturn, 1) := by decide +kernel
theorem dX9_more_73 : decode cX9_more 73 = .ok (.iinc 3 1, 3) := by decide +kernel
theorem dX9_more_76 : decode cX9_more 76 = .ok (.iinc 4 1, 3) := by decide +kernel
theorem dX9_more_79 : decode cX9_more 79 = .ok (.goto (-34), 3) := by decide +kernel
theorem dX9_more_8 : decode cX9_more 8 = .ok (.ireturn, 1) := by decide +kernel
theorem dX9_more_82 : decode cX9_more 82 = .ok (.iconst (-1), 1) := by decide +kernel
theorem dX9_more_83 : decode cX9_more 83 = .ok (.ireturn, 1) := by decide +kernel
theorem dX9_more_9 : decode cX9_more 9 = .ok (.aload_n 0, 1) := by decide +kernel