theorem dX0_least_0 : decode cX0_least 0 = .ok (.aload_n 0, 1) := by decide +kernel
theorem dX0_least_1 : decode cX0_least 1 = .ok (.getfield 29, 3) := by decide +kernel
theorem dX0_least_10 : decode cX0_least 10 = .ok (.if_icmp .gt 50, 3) := by decide +kernel
theorem dX0_least_102 : decode cX0_least 102 = .ok (.aload_n 0, 1) := by decide +kernel
theorem dX0_least_103 : decode cX0_least 103 = .ok (.getfield 18, 3) := by decide +kernel
theorem dX0_least_106 : decode cX0_least 106 = .ok (.ireturn, 1) := by decide +kernel
theorem dX0_least_13 : decode cX0_least 13 = .ok (.aload_n 0, 1) := by decide +kernel
theorem dX0_least_14 : decode cX0_least 14 = .ok (.getfield 18, 3) := by decide +kernel
theorem dX0_least_17 : decode cX0_least 17 = .ok (.iconst (-1), 1) := by decide +kernel
theorem dX0_least_18 : decode cX0_least 18 = .ok (.if_icmp .ne 42, 3) := by decide +kernel
theorem dX0_least_21 : decode cX0_least 21 = .ok (.aload_n 0, 1) := by decide +kernel
theorem dX0_least_22 : decode cX0_least 22 = .ok (.aload_n 2, 1) := by decide +kernel
theorem dX0_least_23 : decode cX0_least 23 = .ok (.getfield 32, 3) := by decide +kernel
theorem dX0_least_26 : decode cX0_least 26 = .ok (.ifCond .eq 8, 3) := by decide +kernel
theorem dX0_least_29 : decode cX0_least 29 = .ok (.bipush (-2), 2) := by decide +kernel
theorem dX0_least_31 : decode cX0_least 31 = .ok (.goto 12, 3) := by decide +kernel
theorem dX0_least_34 : decode cX0_least 34 = .ok (.aload_n 0, 1) := by decide +kernel
theorem dX0_least_35 : decode cX0_least 35 = .ok (.aload_n 1, 1) := by decide +kernel
theorem dX0_least_36 : decode cX0_least 36 = .ok (.aload_n 2, 1) := by decide +kernel
theorem dX0_least_37 : decode cX0_least 37 = .ok (.aload_n 3, 1) := by decide +kernel
theorem dX0_least_38 : decode cX0_least 38 = .ok (.iload 5, 2) := by decide +kernel
theorem dX0_least_4 : decode cX0_least 4 = .ok (.istore 5, 2) := by decide +kernel
theorem dX0_least_40 : decode cX0_least 40 = .ok (.invokevirtual 38, 3) := by decide +kernel
theorem dX0_least_43 : decode cX0_least 43 = .ok (.putfield 18, 3) := by decide +kernel
theorem dX0_least_46 : decode cX0_least 46 = .ok (.aload_n 0, 1) := by decide +kernel
theorem dX0_least_47 : decode cX0_least 47 = .ok (.iload 5, 2) := by decide +kernel
theorem dX0_least_49 : decode cX0_least 49 = .ok (.iconst 1, 1) := by decide +kernel
theorem dX0_least_50 : decode cX0_least 50 = .ok (.iadd, 1) := by decide +kernel
theorem dX0_least_51 : decode cX0_least 51 = .ok (.putfield 29, 3) := by decide +kernel
theorem dX0_least_54 : decode cX0_least 54 = .ok (.iinc 5 1, 3) := by decide +kernel
theorem dX0_least_57 : decode cX0_least 57 = .ok (.goto (-51), 3) := by decide +kernel
theorem dX0_least_6 : decode cX0_least 6 = .ok (.iload 5, 2) := by decide +kernel
theorem dX0_least_60 : decode cX0_least 60 = .ok (.aload_n 0, 1) := by decide +kernel
theorem dX0_least_61 : decode cX0_least 61 = .ok (.getfield 29, 3) := by decide +kernel
theorem dX0_least_64 : decode cX0_least 64 = .ok (.iconst 1, 1) := by decide +kernel
theorem dX0_least_65 : decode cX0_least 65 = .ok (.isub, 1) := by decide +kernel
theorem dX0_least_66 : decode cX0_least 66 = .ok (.iload 4, 2) := by decide +kernel
theorem dX0_least_68 : decode cX0_least 68 = .ok (.if_icmp .le 5, 3) := by decide +kernel
theorem dX0_least_71 : decode cX0_least 71 = .ok (.iconst (-1), 1) := by decide +kernel
theorem dX0_least_72 : decode cX0_least 72 = .ok (.ireturn, 1) := by decide +kernel
theorem dX0_least_73 : decode cX0_least 73 = .ok (.aload_n 0, 1) := by decide +kernel
theorem dX0_least_74 : decode cX0_least 74 = .ok (.getfield 18, 3) := by decide +kernel
theorem dX0_least_77 : decode cX0_least 77 = .ok (.ifCond .lt 25, 3) := by decide +kernel
theorem dX0_least_8 : decode cX0_least 8 = .ok (.iload 4, 2) := by decide +kernel
theorem dX0_least_80 : decode cX0_least 80 = .ok (.aload_n 0, 1) := by decide +kernel
theorem dX0_least_81 : decode cX0_least 81 = .ok (.aload_n 0, 1) := by decide +kernel
theorem dX0_least_82 : decode cX0_least 82 = .ok (.getfield 18, 3) := by decide +kernel
theorem dX0_least_85 : decode cX0_least 85 = .ok (.putfield 42, 3) := by decide +kernel
theorem dX0_least_88 : decode cX0_least 88 = .ok (.aload_n 0, 1) := by decide +kernel
theorem dX0_least_89 : decode cX0_least 89 = .ok (.getfield 22, 3) := by decide +kernel
theorem dX0_least_92 : decode cX0_least 92 = .ok (.iconst 0, 1) := by decide +kernel
theorem dX0_least_93 : decode cX0_least 93 = .ok (.aload_n 0, 1) := by decide +kernel
theorem dX0_least_94 : decode cX0_least 94 = .ok (.getfield 26, 3) := by decide +kernel
theorem dX0_least_97 : decode cX0_least 97 = .ok (.iconst 0, 1) := by decide +kernel
theorem dX0_least_98 : decode cX0_least 98 = .ok (.iconst 2, 1) := by decide +kernel
theorem dX0_least_99 : decode cX0_least 99 = .ok (.invokestatic 45, 3) := by decide +kernel