theorem dX5_search_0 : decode cX5_search 0 = .ok (.aload_n 0, 1) := by decide +kernel
theorem dX5_search_1 : decode cX5_search 1 = .ok (.iconst 1, 1) := by decide +kernel
theorem dX5_search_11 : decode cX5_search 11 = .ok (.aload_n 2, 1) := by decide +kernel
theorem dX5_search_12 : decode cX5_search 12 = .ok (.aload_n 1, 1) := by decide +kernel
theorem dX5_search_13 : decode cX5_search 13 = .ok (.iconst 2, 1) := by decide +kernel
theorem dX5_search_14 : decode cX5_search 14 = .ok (.invokevirtual 23, 3) := by decide +kernel
theorem dX5_search_17 : decode cX5_search 17 = .ok (.ifCond .ne 4, 3) := by decide +kernel
theorem dX5_search_2 : decode cX5_search 2 = .ok (.putfield 15, 3) := by decide +kernel
theorem dX5_search_20 : decode cX5_search 20 = .ok (.return_, 1) := by decide +kernel
theorem dX5_search_21 : decode cX5_search 21 = .ok (.aload_n 0, 1) := by decide +kernel
theorem dX5_search_22 : decode cX5_search 22 = .ok (.iconst 0, 1) := by decide +kernel
theorem dX5_search_23 : decode cX5_search 23 = .ok (.putfield 19, 3) := by decide +kernel
theorem dX5_search_26 : decode cX5_search 26 = .ok (.iconst 0, 1) := by decide +kernel
theorem dX5_search_27 : decode cX5_search 27 = .ok (.istore_n 3, 1) := by decide +kernel
theorem dX5_search_28 : decode cX5_search 28 = .ok (.iload_n 3, 1) := by decide +kernel
theorem dX5_search_29 : decode cX5_search 29 = .ok (.aload_n 2, 1) := by decide +kernel
theorem dX5_search_30 : decode cX5_search 30 = .ok (.getfield 29, 3) := by decide +kernel
theorem dX5_search_33 : decode cX5_search 33 = .ok (.if_icmp .ge 64, 3) := by decide +kernel
theorem dX5_search_36 : decode cX5_search 36 = .ok (.aload_n 0, 1) := by decide +kernel
theorem dX5_search_37 : decode cX5_search 37 = .ok (.getfield 19, 3) := by decide +kernel
theorem dX5_search_40 : decode cX5_search 40 = .ok (.ifCond .ne 57, 3) := by decide +kernel
theorem dX5_search_43 : decode cX5_search 43 = .ok (.aload_n 2, 1) := by decide +kernel
theorem dX5_search_44 : decode cX5_search 44 = .ok (.iload_n 3, 1) := by decide +kernel
theorem dX5_search_45 : decode cX5_search 45 = .ok (.invokevirtual 32, 3) := by decide +kernel
theorem dX5_search_48 : decode cX5_search 48 = .ok (.aload_n 0, 1) := by decide +kernel
theorem dX5_search_49 : decode cX5_search 49 = .ok (.aload_n 1, 1) := by decide +kernel
theorem dX5_search_5 : decode cX5_search 5 = .ok (.aload_n 0, 1) := by decide +kernel
theorem dX5_search_50 : decode cX5_search 50 = .ok (.aload_n 2, 1) := by decide +kernel
theorem dX5_search_51 : decode cX5_search 51 = .ok (.getfield 36, 3) := by decide +kernel
theorem dX5_search_54 : decode cX5_search 54 = .ok (.invokevirtual 40, 3) := by decide +kernel
theorem dX5_search_57 : decode cX5_search 57 = .ok (.ifCond .eq 34, 3) := by decide +kernel
theorem dX5_search_6 : decode cX5_search 6 = .ok (.bipush (-2), 2) := by decide +kernel
theorem dX5_search_60 : decode cX5_search 60 = .ok (.aload_n 0, 1) := by decide +kernel
theorem dX5_search_61 : decode cX5_search 61 = .ok (.iconst 1, 1) := by decide +kernel
theorem dX5_search_62 : decode cX5_search 62 = .ok (.putfield 19, 3) := by decide +kernel
theorem dX5_search_65 : decode cX5_search 65 = .ok (.aload_n 0, 1) := by decide +kernel
theorem dX5_search_66 : decode cX5_search 66 = .ok (.aload_n 2, 1) := by decide +kernel
theorem dX5_search_67 : decode cX5_search 67 = .ok (.iload_n 3, 1) := by decide +kernel
theorem dX5_search_68 : decode cX5_search 68 = .ok (.invokevirtual 44, 3) := by decide +kernel
theorem dX5_search_71 : decode cX5_search 71 = .ok (.putfield 48, 3) := by decide +kernel
theorem dX5_search_74 : decode cX5_search 74 = .ok (.aload_n 2, 1) := by decide +kernel
theorem dX5_search_75 : decode cX5_search 75 = .ok (.getfield 51, 3) := by decide +kernel
theorem dX5_search_78 : decode cX5_search 78 = .ok (.iconst 0, 1) := by decide +kernel
theorem dX5_search_79 : decode cX5_search 79 = .ok (.aload_n 0, 1) := by decide +kernel
theorem dX5_search_8 : decode cX5_search 8 = .ok (.putfield 19, 3) := by decide +kernel
theorem dX5_search_80 : decode cX5_search 80 = .ok (.getfield 9, 3) := by decide +kernel
theorem dX5_search_83 : decode cX5_search 83 = .ok (.iconst 0, 1) := by decide +kernel
theorem dX5_search_84 : decode cX5_search 84 = .ok (.aload_n 0, 1) := by decide +kernel
theorem dX5_search_85 : decode cX5_search 85 = .ok (.getfield 48, 3) := by decide +kernel
theorem dX5_search_88 : decode cX5_search 88 = .ok (.invokestatic 52, 3) := by decide +kernel
theorem dX5_search_91 : decode cX5_search 91 = .ok (.iinc 3 1, 3) := by decide +kernel
theorem dX5_search_94 : decode cX5_search 94 = .ok (.goto (-66), 3) := by decide +kernel
theorem dX5_search_97 : decode cX5_search 97 = .ok (.return_, 1) := by decide +kernel