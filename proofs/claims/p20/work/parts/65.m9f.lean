theorem dX9_value_0 : decode cX9_value 0 = .ok (.aload_n 0, 1) := by decide +kernel
theorem dX9_value_1 : decode cX9_value 1 = .ok (.invokevirtual 193, 3) := by decide +kernel
theorem dX9_value_100 : decode cX9_value 100 = .ok (.aload_n 0, 1) := by decide +kernel
theorem dX9_value_101 : decode cX9_value 101 = .ok (.getfield 186, 3) := by decide +kernel
theorem dX9_value_104 : decode cX9_value 104 = .ok (.iload_n 2, 1) := by decide +kernel
theorem dX9_value_105 : decode cX9_value 105 = .ok (.ifCond .lt 7, 3) := by decide +kernel
theorem dX9_value_108 : decode cX9_value 108 = .ok (.iconst 0, 1) := by decide +kernel
theorem dX9_value_109 : decode cX9_value 109 = .ok (.goto 7, 3) := by decide +kernel
theorem dX9_value_11 : decode cX9_value 11 = .ok (.l2i, 1) := by decide +kernel
theorem dX9_value_112 : decode cX9_value 112 = .ok (.aload_n 0, 1) := by decide +kernel
theorem dX9_value_113 : decode cX9_value 113 = .ok (.getfield 175, 3) := by decide +kernel
theorem dX9_value_116 : decode cX9_value 116 = .ok (.iastore, 1) := by decide +kernel
theorem dX9_value_117 : decode cX9_value 117 = .ok (.iconst 1, 1) := by decide +kernel
theorem dX9_value_118 : decode cX9_value 118 = .ok (.ireturn, 1) := by decide +kernel
theorem dX9_value_12 : decode cX9_value 12 = .ok (.bipush 97, 2) := by decide +kernel
theorem dX9_value_14 : decode cX9_value 14 = .ok (.isub, 1) := by decide +kernel
theorem dX9_value_15 : decode cX9_value 15 = .ok (.goto 4, 3) := by decide +kernel
theorem dX9_value_18 : decode cX9_value 18 = .ok (.iconst (-1), 1) := by decide +kernel
theorem dX9_value_19 : decode cX9_value 19 = .ok (.istore_n 2, 1) := by decide +kernel
theorem dX9_value_20 : decode cX9_value 20 = .ok (.aload_n 0, 1) := by decide +kernel
theorem dX9_value_21 : decode cX9_value 21 = .ok (.iconst 0, 1) := by decide +kernel
theorem dX9_value_22 : decode cX9_value 22 = .ok (.putfield 175, 3) := by decide +kernel
theorem dX9_value_25 : decode cX9_value 25 = .ok (.iload_n 2, 1) := by decide +kernel
theorem dX9_value_26 : decode cX9_value 26 = .ok (.ifCond .lt 13, 3) := by decide +kernel
theorem dX9_value_29 : decode cX9_value 29 = .ok (.aload_n 0, 1) := by decide +kernel
theorem dX9_value_30 : decode cX9_value 30 = .ok (.invokevirtual 164, 3) := by decide +kernel
theorem dX9_value_33 : decode cX9_value 33 = .ok (.ifCond .ne 15, 3) := by decide +kernel
theorem dX9_value_36 : decode cX9_value 36 = .ok (.goto 10, 3) := by decide +kernel
theorem dX9_value_39 : decode cX9_value 39 = .ok (.aload_n 0, 1) := by decide +kernel
theorem dX9_value_4 : decode cX9_value 4 = .ok (.ifCond .eq 14, 3) := by decide +kernel
theorem dX9_value_40 : decode cX9_value 40 = .ok (.invokevirtual 196, 3) := by decide +kernel
theorem dX9_value_43 : decode cX9_value 43 = .ok (.ifCond .ne 5, 3) := by decide +kernel
theorem dX9_value_46 : decode cX9_value 46 = .ok (.iconst 0, 1) := by decide +kernel
theorem dX9_value_47 : decode cX9_value 47 = .ok (.ireturn, 1) := by decide +kernel
theorem dX9_value_48 : decode cX9_value 48 = .ok (.iload_n 1, 1) := by decide +kernel
theorem dX9_value_49 : decode cX9_value 49 = .ok (.ifCond .eq 37, 3) := by decide +kernel
theorem dX9_value_52 : decode cX9_value 52 = .ok (.aload_n 0, 1) := by decide +kernel
theorem dX9_value_53 : decode cX9_value 53 = .ok (.getfield 31, 3) := by decide +kernel
theorem dX9_value_56 : decode cX9_value 56 = .ok (.aload_n 0, 1) := by decide +kernel
theorem dX9_value_57 : decode cX9_value 57 = .ok (.getfield 186, 3) := by decide +kernel
theorem dX9_value_60 : decode cX9_value 60 = .ok (.iload_n 2, 1) := by decide +kernel
theorem dX9_value_61 : decode cX9_value 61 = .ok (.iastore, 1) := by decide +kernel
theorem dX9_value_62 : decode cX9_value 62 = .ok (.aload_n 0, 1) := by decide +kernel
theorem dX9_value_63 : decode cX9_value 63 = .ok (.getfield 34, 3) := by decide +kernel
theorem dX9_value_66 : decode cX9_value 66 = .ok (.aload_n 0, 1) := by decide +kernel
theorem dX9_value_67 : decode cX9_value 67 = .ok (.getfield 186, 3) := by decide +kernel
theorem dX9_value_7 : decode cX9_value 7 = .ok (.aload_n 0, 1) := by decide +kernel
theorem dX9_value_70 : decode cX9_value 70 = .ok (.iload_n 2, 1) := by decide +kernel
theorem dX9_value_71 : decode cX9_value 71 = .ok (.ifCond .lt 7, 3) := by decide +kernel
theorem dX9_value_74 : decode cX9_value 74 = .ok (.iconst 0, 1) := by decide +kernel
theorem dX9_value_75 : decode cX9_value 75 = .ok (.goto 7, 3) := by decide +kernel
theorem dX9_value_78 : decode cX9_value 78 = .ok (.aload_n 0, 1) := by decide +kernel
theorem dX9_value_79 : decode cX9_value 79 = .ok (.getfield 175, 3) := by decide +kernel
theorem dX9_value_8 : decode cX9_value 8 = .ok (.getfield 133, 3) := by decide +kernel
theorem dX9_value_82 : decode cX9_value 82 = .ok (.iastore, 1) := by decide +kernel
theorem dX9_value_83 : decode cX9_value 83 = .ok (.goto 34, 3) := by decide +kernel
theorem dX9_value_86 : decode cX9_value 86 = .ok (.aload_n 0, 1) := by decide +kernel
theorem dX9_value_87 : decode cX9_value 87 = .ok (.getfield 25, 3) := by decide +kernel
theorem dX9_value_90 : decode cX9_value 90 = .ok (.aload_n 0, 1) := by decide +kernel
theorem dX9_value_91 : decode cX9_value 91 = .ok (.getfield 186, 3) := by decide +kernel
theorem dX9_value_94 : decode cX9_value 94 = .ok (.iload_n 2, 1) := by decide +kernel
theorem dX9_value_95 : decode cX9_value 95 = .ok (.iastore, 1) := by decide +kernel
theorem dX9_value_96 : decode cX9_value 96 = .ok (.aload_n 0, 1) := by decide +kernel
theorem dX9_value_97 : decode cX9_value 97 = .ok (.getfield 28, 3) := by decide +kernel