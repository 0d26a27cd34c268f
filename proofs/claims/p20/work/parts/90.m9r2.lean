theorem dX9_race_0 : decode cX9_race 0 = .ok (.aload_n 0, 1) := by decide +kernel
theorem dX9_race_1 : decode cX9_race 1 = .ok (.getfield 224, 3) := by decide +kernel
theorem dX9_race_10 : decode cX9_race 10 = .ok (.getfield 98, 3) := by decide +kernel
theorem dX9_race_100 : decode cX9_race 100 = .ok (.getfield 101, 3) := by decide +kernel
theorem dX9_race_103 : decode cX9_race 103 = .ok (.aload_n 0, 1) := by decide +kernel
theorem dX9_race_104 : decode cX9_race 104 = .ok (.getfield 374, 3) := by decide +kernel
theorem dX9_race_107 : decode cX9_race 107 = .ok (.aload_n 0, 1) := by decide +kernel
theorem dX9_race_108 : decode cX9_race 108 = .ok (.iconst 2, 1) := by decide +kernel
theorem dX9_race_109 : decode cX9_race 109 = .ok (.iload_n 1, 1) := by decide +kernel
theorem dX9_race_110 : decode cX9_race 110 = .ok (.aload_n 0, 1) := by decide +kernel
theorem dX9_race_111 : decode cX9_race 111 = .ok (.getfield 374, 3) := by decide +kernel
theorem dX9_race_114 : decode cX9_race 114 = .ok (.invokevirtual 353, 3) := by decide +kernel
theorem dX9_race_117 : decode cX9_race 117 = .ok (.iastore, 1) := by decide +kernel
theorem dX9_race_118 : decode cX9_race 118 = .ok (.aload_n 0, 1) := by decide +kernel
theorem dX9_race_119 : decode cX9_race 119 = .ok (.dup, 1) := by decide +kernel
theorem dX9_race_120 : decode cX9_race 120 = .ok (.getfield 374, 3) := by decide +kernel
theorem dX9_race_123 : decode cX9_race 123 = .ok (.iconst 1, 1) := by decide +kernel
theorem dX9_race_124 : decode cX9_race 124 = .ok (.iadd, 1) := by decide +kernel
theorem dX9_race_125 : decode cX9_race 125 = .ok (.putfield 374, 3) := by decide +kernel
theorem dX9_race_128 : decode cX9_race 128 = .ok (.goto (-42), 3) := by decide +kernel
theorem dX9_race_13 : decode cX9_race 13 = .ok (.iconst (-1), 1) := by decide +kernel
theorem dX9_race_131 : decode cX9_race 131 = .ok (.iinc 1 1, 3) := by decide +kernel
theorem dX9_race_134 : decode cX9_race 134 = .ok (.goto (-83), 3) := by decide +kernel
theorem dX9_race_137 : decode cX9_race 137 = .ok (.aload_n 0, 1) := by decide +kernel
theorem dX9_race_138 : decode cX9_race 138 = .ok (.getfield 98, 3) := by decide +kernel
theorem dX9_race_14 : decode cX9_race 14 = .ok (.if_icmp .eq 8, 3) := by decide +kernel
theorem dX9_race_141 : decode cX9_race 141 = .ok (.ireturn, 1) := by decide +kernel
theorem dX9_race_17 : decode cX9_race 17 = .ok (.aload_n 0, 1) := by decide +kernel
theorem dX9_race_18 : decode cX9_race 18 = .ok (.getfield 98, 3) := by decide +kernel
theorem dX9_race_21 : decode cX9_race 21 = .ok (.ireturn, 1) := by decide +kernel
theorem dX9_race_22 : decode cX9_race 22 = .ok (.aload_n 0, 1) := by decide +kernel
theorem dX9_race_23 : decode cX9_race 23 = .ok (.iconst 2, 1) := by decide +kernel
theorem dX9_race_24 : decode cX9_race 24 = .ok (.iconst 0, 1) := by decide +kernel
theorem dX9_race_25 : decode cX9_race 25 = .ok (.iconst 0, 1) := by decide +kernel
theorem dX9_race_26 : decode cX9_race 26 = .ok (.iconst 1, 1) := by decide +kernel
theorem dX9_race_27 : decode cX9_race 27 = .ok (.invokevirtual 335, 3) := by decide +kernel
theorem dX9_race_30 : decode cX9_race 30 = .ok (.aload_n 0, 1) := by decide +kernel
theorem dX9_race_31 : decode cX9_race 31 = .ok (.aload_n 0, 1) := by decide +kernel
theorem dX9_race_32 : decode cX9_race 32 = .ok (.getfield 62, 3) := by decide +kernel
theorem dX9_race_35 : decode cX9_race 35 = .ok (.iconst 2, 1) := by decide +kernel
theorem dX9_race_36 : decode cX9_race 36 = .ok (.baload, 1) := by decide +kernel
theorem dX9_race_37 : decode cX9_race 37 = .ok (.ifCond .eq 8, 3) := by decide +kernel
theorem dX9_race_4 : decode cX9_race 4 = .ok (.ifCond .ne 5, 3) := by decide +kernel
theorem dX9_race_40 : decode cX9_race 40 = .ok (.bipush (-2), 2) := by decide +kernel
theorem dX9_race_42 : decode cX9_race 42 = .ok (.goto 4, 3) := by decide +kernel
theorem dX9_race_45 : decode cX9_race 45 = .ok (.iconst 0, 1) := by decide +kernel
theorem dX9_race_46 : decode cX9_race 46 = .ok (.putfield 98, 3) := by decide +kernel
theorem dX9_race_49 : decode cX9_race 49 = .ok (.iconst 0, 1) := by decide +kernel
theorem dX9_race_50 : decode cX9_race 50 = .ok (.istore_n 1, 1) := by decide +kernel
theorem dX9_race_51 : decode cX9_race 51 = .ok (.iload_n 1, 1) := by decide +kernel
theorem dX9_race_52 : decode cX9_race 52 = .ok (.aload_n 0, 1) := by decide +kernel
theorem dX9_race_53 : decode cX9_race 53 = .ok (.getfield 59, 3) := by decide +kernel
theorem dX9_race_56 : decode cX9_race 56 = .ok (.iconst 2, 1) := by decide +kernel
theorem dX9_race_57 : decode cX9_race 57 = .ok (.iaload, 1) := by decide +kernel
theorem dX9_race_58 : decode cX9_race 58 = .ok (.if_icmp .ge 79, 3) := by decide +kernel
theorem dX9_race_61 : decode cX9_race 61 = .ok (.aload_n 0, 1) := by decide +kernel
theorem dX9_race_62 : decode cX9_race 62 = .ok (.getfield 98, 3) := by decide +kernel
theorem dX9_race_65 : decode cX9_race 65 = .ok (.ifCond .ne 72, 3) := by decide +kernel
theorem dX9_race_68 : decode cX9_race 68 = .ok (.aload_n 0, 1) := by decide +kernel
theorem dX9_race_69 : decode cX9_race 69 = .ok (.iload_n 1, 1) := by decide +kernel
theorem dX9_race_7 : decode cX9_race 7 = .ok (.iconst (-1), 1) := by decide +kernel
theorem dX9_race_70 : decode cX9_race 70 = .ok (.invokevirtual 371, 3) := by decide +kernel
theorem dX9_race_73 : decode cX9_race 73 = .ok (.ifCond .eq 58, 3) := by decide +kernel
theorem dX9_race_76 : decode cX9_race 76 = .ok (.aload_n 0, 1) := by decide +kernel
theorem dX9_race_77 : decode cX9_race 77 = .ok (.iconst 1, 1) := by decide +kernel
theorem dX9_race_78 : decode cX9_race 78 = .ok (.putfield 98, 3) := by decide +kernel
theorem dX9_race_8 : decode cX9_race 8 = .ok (.ireturn, 1) := by decide +kernel
theorem dX9_race_81 : decode cX9_race 81 = .ok (.aload_n 0, 1) := by decide +kernel
theorem dX9_race_82 : decode cX9_race 82 = .ok (.iconst 0, 1) := by decide +kernel
theorem dX9_race_83 : decode cX9_race 83 = .ok (.putfield 374, 3) := by decide +kernel
theorem dX9_race_86 : decode cX9_race 86 = .ok (.aload_n 0, 1) := by decide +kernel
theorem dX9_race_87 : decode cX9_race 87 = .ok (.iconst 2, 1) := by decide +kernel
theorem dX9_race_88 : decode cX9_race 88 = .ok (.iload_n 1, 1) := by decide +kernel
theorem dX9_race_89 : decode cX9_race 89 = .ok (.aload_n 0, 1) := by decide +kernel
theorem dX9_race_9 : decode cX9_race 9 = .ok (.aload_n 0, 1) := by decide +kernel
theorem dX9_race_90 : decode cX9_race 90 = .ok (.getfield 374, 3) := by decide +kernel
theorem dX9_race_93 : decode cX9_race 93 = .ok (.invokevirtual 353, 3) := by decide +kernel
theorem dX9_race_96 : decode cX9_race 96 = .ok (.ifCond .lt 35, 3) := by decide +kernel
theorem dX9_race_99 : decode cX9_race 99 = .ok (.aload_n 0, 1) := by decide +kernel
theorem dX9_racer_0 : decode cX9_racer 0 = .ok (.aload_n 0, 1) := by decide +kernel
theorem dX9_racer_1 : decode cX9_racer 1 = .ok (.getfield 224, 3) := by decide +kernel
theorem dX9_racer_11 : decode cX9_racer 11 = .ok (.aload_n 0, 1) := by decide +kernel
theorem dX9_racer_12 : decode cX9_racer 12 = .ok (.invokevirtual 377, 3) := by decide +kernel
theorem dX9_racer_15 : decode cX9_racer 15 = .ok (.iconst 1, 1) := by decide +kernel
theorem dX9_racer_16 : decode cX9_racer 16 = .ok (.if_icmp .eq 5, 3) := by decide +kernel
theorem dX9_racer_19 : decode cX9_racer 19 = .ok (.iconst (-1), 1) := by decide +kernel
theorem dX9_racer_20 : decode cX9_racer 20 = .ok (.ireturn, 1) := by decide +kernel
theorem dX9_racer_21 : decode cX9_racer 21 = .ok (.iload_n 1, 1) := by decide +kernel
theorem dX9_racer_22 : decode cX9_racer 22 = .ok (.iconst 3, 1) := by decide +kernel
theorem dX9_racer_23 : decode cX9_racer 23 = .ok (.if_icmp .ge 31, 3) := by decide +kernel
theorem dX9_racer_26 : decode cX9_racer 26 = .ok (.iload_n 1, 1) := by decide +kernel
theorem dX9_racer_27 : decode cX9_racer 27 = .ok (.ifCond .ne 10, 3) := by decide +kernel
theorem dX9_racer_30 : decode cX9_racer 30 = .ok (.aload_n 0, 1) := by decide +kernel
theorem dX9_racer_31 : decode cX9_racer 31 = .ok (.getfield 362, 3) := by decide +kernel
theorem dX9_racer_34 : decode cX9_racer 34 = .ok (.goto 19, 3) := by decide +kernel
theorem dX9_racer_37 : decode cX9_racer 37 = .ok (.iload_n 1, 1) := by decide +kernel
theorem dX9_racer_38 : decode cX9_racer 38 = .ok (.iconst 1, 1) := by decide +kernel
theorem dX9_racer_39 : decode cX9_racer 39 = .ok (.if_icmp .ne 10, 3) := by decide +kernel
theorem dX9_racer_4 : decode cX9_racer 4 = .ok (.ifCond .eq 15, 3) := by decide +kernel
theorem dX9_racer_42 : decode cX9_racer 42 = .ok (.aload_n 0, 1) := by decide +kernel
theorem dX9_racer_43 : decode cX9_racer 43 = .ok (.getfield 365, 3) := by decide +kernel
theorem dX9_racer_46 : decode cX9_racer 46 = .ok (.goto 7, 3) := by decide +kernel
theorem dX9_racer_49 : decode cX9_racer 49 = .ok (.aload_n 0, 1) := by decide +kernel
theorem dX9_racer_50 : decode cX9_racer 50 = .ok (.getfield 368, 3) := by decide +kernel
theorem dX9_racer_53 : decode cX9_racer 53 = .ok (.ireturn, 1) := by decide +kernel
theorem dX9_racer_54 : decode cX9_racer 54 = .ok (.iload_n 1, 1) := by decide +kernel
theorem dX9_racer_55 : decode cX9_racer 55 = .ok (.iconst 3, 1) := by decide +kernel
theorem dX9_racer_56 : decode cX9_racer 56 = .ok (.isub, 1) := by decide +kernel
theorem dX9_racer_57 : decode cX9_racer 57 = .ok (.aload_n 0, 1) := by decide +kernel
theorem dX9_racer_58 : decode cX9_racer 58 = .ok (.getfield 374, 3) := by decide +kernel
theorem dX9_racer_61 : decode cX9_racer 61 = .ok (.if_icmp .ge 14, 3) := by decide +kernel
theorem dX9_racer_64 : decode cX9_racer 64 = .ok (.aload_n 0, 1) := by decide +kernel
theorem dX9_racer_65 : decode cX9_racer 65 = .ok (.getfield 101, 3) := by decide +kernel
theorem dX9_racer_68 : decode cX9_racer 68 = .ok (.iload_n 1, 1) := by decide +kernel
theorem dX9_racer_69 : decode cX9_racer 69 = .ok (.iconst 3, 1) := by decide +kernel
theorem dX9_racer_7 : decode cX9_racer 7 = .ok (.iload_n 1, 1) := by decide +kernel
theorem dX9_racer_70 : decode cX9_racer 70 = .ok (.isub, 1) := by decide +kernel
theorem dX9_racer_71 : decode cX9_racer 71 = .ok (.iaload, 1) := by decide +kernel
theorem dX9_racer_72 : decode cX9_racer 72 = .ok (.goto 4, 3) := by decide +kernel
theorem dX9_racer_75 : decode cX9_racer 75 = .ok (.iconst (-1), 1) := by decide +kernel
theorem dX9_racer_76 : decode cX9_racer 76 = .ok (.ireturn, 1) := by decide +kernel
theorem dX9_racer_8 : decode cX9_racer 8 = .ok (.ifCond .lt 11, 3) := by decide +kernel