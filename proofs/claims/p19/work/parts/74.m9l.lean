theorem dX9_can_0 : decode cX9_can 0 = .ok (.iload_n 3, 1) := by decide +kernel
theorem dX9_can_1 : decode cX9_can 1 = .ok (.ifCond .lt 8, 3) := by decide +kernel
theorem dX9_can_10 : decode cX9_can 10 = .ok (.ireturn, 1) := by decide +kernel
theorem dX9_can_100 : decode cX9_can 100 = .ok (.iload 4, 2) := by decide +kernel
theorem dX9_can_102 : decode cX9_can 102 = .ok (.imul, 1) := by decide +kernel
theorem dX9_can_103 : decode cX9_can 103 = .ok (.iadd, 1) := by decide +kernel
theorem dX9_can_104 : decode cX9_can 104 = .ok (.aload_n 0, 1) := by decide +kernel
theorem dX9_can_105 : decode cX9_can 105 = .ok (.getfield 75, 3) := by decide +kernel
theorem dX9_can_108 : decode cX9_can 108 = .ok (.iload 4, 2) := by decide +kernel
theorem dX9_can_11 : decode cX9_can 11 = .ok (.iload_n 3, 1) := by decide +kernel
theorem dX9_can_110 : decode cX9_can 110 = .ok (.iaload, 1) := by decide +kernel
theorem dX9_can_111 : decode cX9_can 111 = .ok (.iadd, 1) := by decide +kernel
theorem dX9_can_112 : decode cX9_can 112 = .ok (.iaload, 1) := by decide +kernel
theorem dX9_can_113 : decode cX9_can 113 = .ok (.istore 5, 2) := by decide +kernel
theorem dX9_can_115 : decode cX9_can 115 = .ok (.iload 5, 2) := by decide +kernel
theorem dX9_can_117 : decode cX9_can 117 = .ok (.iconst 4, 1) := by decide +kernel
theorem dX9_can_118 : decode cX9_can 118 = .ok (.if_icmp .eq 9, 3) := by decide +kernel
theorem dX9_can_12 : decode cX9_can 12 = .ok (.iconst 3, 1) := by decide +kernel
theorem dX9_can_121 : decode cX9_can 121 = .ok (.iload 5, 2) := by decide +kernel
theorem dX9_can_123 : decode cX9_can 123 = .ok (.iconst 5, 1) := by decide +kernel
theorem dX9_can_124 : decode cX9_can 124 = .ok (.if_icmp .lt 23, 3) := by decide +kernel
theorem dX9_can_127 : decode cX9_can 127 = .ok (.iload 5, 2) := by decide +kernel
theorem dX9_can_129 : decode cX9_can 129 = .ok (.bipush 8, 2) := by decide +kernel
theorem dX9_can_13 : decode cX9_can 13 = .ok (.irem, 1) := by decide +kernel
theorem dX9_can_131 : decode cX9_can 131 = .ok (.if_icmp .eq 16, 3) := by decide +kernel
theorem dX9_can_134 : decode cX9_can 134 = .ok (.aload_n 0, 1) := by decide +kernel
theorem dX9_can_135 : decode cX9_can 135 = .ok (.getfield 75, 3) := by decide +kernel
theorem dX9_can_138 : decode cX9_can 138 = .ok (.iload 4, 2) := by decide +kernel
theorem dX9_can_14 : decode cX9_can 14 = .ok (.istore 4, 2) := by decide +kernel
theorem dX9_can_140 : decode cX9_can 140 = .ok (.invokestatic 267, 3) := by decide +kernel
theorem dX9_can_143 : decode cX9_can 143 = .ok (.iaload, 1) := by decide +kernel
theorem dX9_can_144 : decode cX9_can 144 = .ok (.ifCond .ne 7, 3) := by decide +kernel
theorem dX9_can_147 : decode cX9_can 147 = .ok (.iconst 1, 1) := by decide +kernel
theorem dX9_can_148 : decode cX9_can 148 = .ok (.goto 4, 3) := by decide +kernel
theorem dX9_can_151 : decode cX9_can 151 = .ok (.iconst 0, 1) := by decide +kernel
theorem dX9_can_152 : decode cX9_can 152 = .ok (.ireturn, 1) := by decide +kernel
theorem dX9_can_16 : decode cX9_can 16 = .ok (.iload_n 3, 1) := by decide +kernel
theorem dX9_can_17 : decode cX9_can 17 = .ok (.iconst 2, 1) := by decide +kernel
theorem dX9_can_18 : decode cX9_can 18 = .ok (.if_icmp .le 38, 3) := by decide +kernel
theorem dX9_can_21 : decode cX9_can 21 = .ok (.iload_n 2, 1) := by decide +kernel
theorem dX9_can_22 : decode cX9_can 22 = .ok (.iconst 1, 1) := by decide +kernel
theorem dX9_can_23 : decode cX9_can 23 = .ok (.if_icmp .ne 31, 3) := by decide +kernel
theorem dX9_can_26 : decode cX9_can 26 = .ok (.iload 4, 2) := by decide +kernel
theorem dX9_can_28 : decode cX9_can 28 = .ok (.aload_n 0, 1) := by decide +kernel
theorem dX9_can_29 : decode cX9_can 29 = .ok (.getfield 7, 3) := by decide +kernel
theorem dX9_can_32 : decode cX9_can 32 = .ok (.iload_n 1, 1) := by decide +kernel
theorem dX9_can_33 : decode cX9_can 33 = .ok (.iaload, 1) := by decide +kernel
theorem dX9_can_34 : decode cX9_can 34 = .ok (.if_icmp .ge 20, 3) := by decide +kernel
theorem dX9_can_37 : decode cX9_can 37 = .ok (.aload_n 0, 1) := by decide +kernel
theorem dX9_can_38 : decode cX9_can 38 = .ok (.getfield 75, 3) := by decide +kernel
theorem dX9_can_4 : decode cX9_can 4 = .ok (.iload_n 3, 1) := by decide +kernel
theorem dX9_can_41 : decode cX9_can 41 = .ok (.iload 4, 2) := by decide +kernel
theorem dX9_can_43 : decode cX9_can 43 = .ok (.invokestatic 267, 3) := by decide +kernel
theorem dX9_can_46 : decode cX9_can 46 = .ok (.iaload, 1) := by decide +kernel
theorem dX9_can_47 : decode cX9_can 47 = .ok (.ifCond .le 7, 3) := by decide +kernel
theorem dX9_can_5 : decode cX9_can 5 = .ok (.iconst 5, 1) := by decide +kernel
theorem dX9_can_50 : decode cX9_can 50 = .ok (.iconst 1, 1) := by decide +kernel
theorem dX9_can_51 : decode cX9_can 51 = .ok (.goto 4, 3) := by decide +kernel
theorem dX9_can_54 : decode cX9_can 54 = .ok (.iconst 0, 1) := by decide +kernel
theorem dX9_can_55 : decode cX9_can 55 = .ok (.ireturn, 1) := by decide +kernel
theorem dX9_can_56 : decode cX9_can 56 = .ok (.iload 4, 2) := by decide +kernel
theorem dX9_can_58 : decode cX9_can 58 = .ok (.aload_n 0, 1) := by decide +kernel
theorem dX9_can_59 : decode cX9_can 59 = .ok (.getfield 7, 3) := by decide +kernel
theorem dX9_can_6 : decode cX9_can 6 = .ok (.if_icmp .le 5, 3) := by decide +kernel
theorem dX9_can_62 : decode cX9_can 62 = .ok (.iload_n 1, 1) := by decide +kernel
theorem dX9_can_63 : decode cX9_can 63 = .ok (.iaload, 1) := by decide +kernel
theorem dX9_can_64 : decode cX9_can 64 = .ok (.if_icmp .ge 24, 3) := by decide +kernel
theorem dX9_can_67 : decode cX9_can 67 = .ok (.aload_n 0, 1) := by decide +kernel
theorem dX9_can_68 : decode cX9_can 68 = .ok (.getfield 75, 3) := by decide +kernel
theorem dX9_can_71 : decode cX9_can 71 = .ok (.iload 4, 2) := by decide +kernel
theorem dX9_can_73 : decode cX9_can 73 = .ok (.iaload, 1) := by decide +kernel
theorem dX9_can_74 : decode cX9_can 74 = .ok (.aload_n 0, 1) := by decide +kernel
theorem dX9_can_75 : decode cX9_can 75 = .ok (.getfield 13, 3) := by decide +kernel
theorem dX9_can_78 : decode cX9_can 78 = .ok (.iconst 3, 1) := by decide +kernel
theorem dX9_can_79 : decode cX9_can 79 = .ok (.iload_n 1, 1) := by decide +kernel
theorem dX9_can_80 : decode cX9_can 80 = .ok (.imul, 1) := by decide +kernel
theorem dX9_can_81 : decode cX9_can 81 = .ok (.iload 4, 2) := by decide +kernel
theorem dX9_can_83 : decode cX9_can 83 = .ok (.iadd, 1) := by decide +kernel
theorem dX9_can_84 : decode cX9_can 84 = .ok (.iaload, 1) := by decide +kernel
theorem dX9_can_85 : decode cX9_can 85 = .ok (.if_icmp .lt 5, 3) := by decide +kernel
theorem dX9_can_88 : decode cX9_can 88 = .ok (.iconst 0, 1) := by decide +kernel
theorem dX9_can_89 : decode cX9_can 89 = .ok (.ireturn, 1) := by decide +kernel
theorem dX9_can_9 : decode cX9_can 9 = .ok (.iconst 0, 1) := by decide +kernel
theorem dX9_can_90 : decode cX9_can 90 = .ok (.aload_n 0, 1) := by decide +kernel
theorem dX9_can_91 : decode cX9_can 91 = .ok (.getfield 16, 3) := by decide +kernel
theorem dX9_can_94 : decode cX9_can 94 = .ok (.bipush 36, 2) := by decide +kernel
theorem dX9_can_96 : decode cX9_can 96 = .ok (.iload_n 1, 1) := by decide +kernel
theorem dX9_can_97 : decode cX9_can 97 = .ok (.imul, 1) := by decide +kernel
theorem dX9_can_98 : decode cX9_can 98 = .ok (.bipush 12, 2) := by decide +kernel
theorem dX9_loaded_0 : decode cX9_loaded 0 = .ok (.iload_n 1, 1) := by decide +kernel
theorem dX9_loaded_1 : decode cX9_loaded 1 = .ok (.invokestatic 267, 3) := by decide +kernel
theorem dX9_loaded_10 : decode cX9_loaded 10 = .ok (.iaload, 1) := by decide +kernel
theorem dX9_loaded_11 : decode cX9_loaded 11 = .ok (.iconst 1, 1) := by decide +kernel
theorem dX9_loaded_12 : decode cX9_loaded 12 = .ok (.isub, 1) := by decide +kernel
theorem dX9_loaded_13 : decode cX9_loaded 13 = .ok (.istore 4, 2) := by decide +kernel
theorem dX9_loaded_15 : decode cX9_loaded 15 = .ok (.iload 4, 2) := by decide +kernel
theorem dX9_loaded_17 : decode cX9_loaded 17 = .ok (.ifCond .lt 40, 3) := by decide +kernel
theorem dX9_loaded_20 : decode cX9_loaded 20 = .ok (.aload_n 0, 1) := by decide +kernel
theorem dX9_loaded_21 : decode cX9_loaded 21 = .ok (.getfield 75, 3) := by decide +kernel
theorem dX9_loaded_24 : decode cX9_loaded 24 = .ok (.iload_n 3, 1) := by decide +kernel
theorem dX9_loaded_25 : decode cX9_loaded 25 = .ok (.iconst 1, 1) := by decide +kernel
theorem dX9_loaded_26 : decode cX9_loaded 26 = .ok (.iadd, 1) := by decide +kernel
theorem dX9_loaded_27 : decode cX9_loaded 27 = .ok (.iconst 2, 1) := by decide +kernel
theorem dX9_loaded_28 : decode cX9_loaded 28 = .ok (.iload 4, 2) := by decide +kernel
theorem dX9_loaded_30 : decode cX9_loaded 30 = .ok (.imul, 1) := by decide +kernel
theorem dX9_loaded_31 : decode cX9_loaded 31 = .ok (.iadd, 1) := by decide +kernel
theorem dX9_loaded_32 : decode cX9_loaded 32 = .ok (.iaload, 1) := by decide +kernel
theorem dX9_loaded_33 : decode cX9_loaded 33 = .ok (.iload_n 2, 1) := by decide +kernel
theorem dX9_loaded_34 : decode cX9_loaded 34 = .ok (.if_icmp .ne 17, 3) := by decide +kernel
theorem dX9_loaded_37 : decode cX9_loaded 37 = .ok (.aload_n 0, 1) := by decide +kernel
theorem dX9_loaded_38 : decode cX9_loaded 38 = .ok (.getfield 75, 3) := by decide +kernel
theorem dX9_loaded_4 : decode cX9_loaded 4 = .ok (.istore_n 3, 1) := by decide +kernel
theorem dX9_loaded_41 : decode cX9_loaded 41 = .ok (.iload_n 3, 1) := by decide +kernel
theorem dX9_loaded_42 : decode cX9_loaded 42 = .ok (.iconst 2, 1) := by decide +kernel
theorem dX9_loaded_43 : decode cX9_loaded 43 = .ok (.iadd, 1) := by decide +kernel
theorem dX9_loaded_44 : decode cX9_loaded 44 = .ok (.iconst 2, 1) := by decide +kernel
theorem dX9_loaded_45 : decode cX9_loaded 45 = .ok (.iload 4, 2) := by decide +kernel
theorem dX9_loaded_47 : decode cX9_loaded 47 = .ok (.imul, 1) := by decide +kernel
theorem dX9_loaded_48 : decode cX9_loaded 48 = .ok (.iadd, 1) := by decide +kernel
theorem dX9_loaded_49 : decode cX9_loaded 49 = .ok (.iaload, 1) := by decide +kernel
theorem dX9_loaded_5 : decode cX9_loaded 5 = .ok (.aload_n 0, 1) := by decide +kernel
theorem dX9_loaded_50 : decode cX9_loaded 50 = .ok (.ireturn, 1) := by decide +kernel
theorem dX9_loaded_51 : decode cX9_loaded 51 = .ok (.iinc 4 (-1), 3) := by decide +kernel
theorem dX9_loaded_54 : decode cX9_loaded 54 = .ok (.goto (-39), 3) := by decide +kernel
theorem dX9_loaded_57 : decode cX9_loaded 57 = .ok (.aload_n 0, 1) := by decide +kernel
theorem dX9_loaded_58 : decode cX9_loaded 58 = .ok (.getfield 75, 3) := by decide +kernel
theorem dX9_loaded_6 : decode cX9_loaded 6 = .ok (.getfield 75, 3) := by decide +kernel
theorem dX9_loaded_61 : decode cX9_loaded 61 = .ok (.bipush 12, 2) := by decide +kernel
theorem dX9_loaded_63 : decode cX9_loaded 63 = .ok (.iload_n 2, 1) := by decide +kernel
theorem dX9_loaded_64 : decode cX9_loaded 64 = .ok (.iadd, 1) := by decide +kernel
theorem dX9_loaded_65 : decode cX9_loaded 65 = .ok (.iaload, 1) := by decide +kernel
theorem dX9_loaded_66 : decode cX9_loaded 66 = .ok (.ireturn, 1) := by decide +kernel
theorem dX9_loaded_9 : decode cX9_loaded 9 = .ok (.iload_n 3, 1) := by decide +kernel
theorem dX9_locked_0 : decode cX9_locked 0 = .ok (.iload_n 1, 1) := by decide +kernel
theorem dX9_locked_1 : decode cX9_locked 1 = .ok (.iconst 4, 1) := by decide +kernel
theorem dX9_locked_10 : decode cX9_locked 10 = .ok (.bipush 12, 2) := by decide +kernel
theorem dX9_locked_12 : decode cX9_locked 12 = .ok (.iload_n 3, 1) := by decide +kernel
theorem dX9_locked_13 : decode cX9_locked 13 = .ok (.iadd, 1) := by decide +kernel
theorem dX9_locked_14 : decode cX9_locked 14 = .ok (.iaload, 1) := by decide +kernel
theorem dX9_locked_15 : decode cX9_locked 15 = .ok (.istore 6, 2) := by decide +kernel
theorem dX9_locked_17 : decode cX9_locked 17 = .ok (.iload_n 1, 1) := by decide +kernel
theorem dX9_locked_18 : decode cX9_locked 18 = .ok (.iconst 5, 1) := by decide +kernel
theorem dX9_locked_19 : decode cX9_locked 19 = .ok (.if_icmp .ne 21, 3) := by decide +kernel
theorem dX9_locked_2 : decode cX9_locked 2 = .ok (.if_icmp .ne 4, 3) := by decide +kernel
theorem dX9_locked_22 : decode cX9_locked 22 = .ok (.aload_n 0, 1) := by decide +kernel
theorem dX9_locked_23 : decode cX9_locked 23 = .ok (.getfield 75, 3) := by decide +kernel
theorem dX9_locked_26 : decode cX9_locked 26 = .ok (.bipush 12, 2) := by decide +kernel
theorem dX9_locked_28 : decode cX9_locked 28 = .ok (.iload_n 3, 1) := by decide +kernel
theorem dX9_locked_29 : decode cX9_locked 29 = .ok (.iadd, 1) := by decide +kernel
theorem dX9_locked_30 : decode cX9_locked 30 = .ok (.aload_n 0, 1) := by decide +kernel
theorem dX9_locked_31 : decode cX9_locked 31 = .ok (.getfield 75, 3) := by decide +kernel
theorem dX9_locked_34 : decode cX9_locked 34 = .ok (.iload_n 2, 1) := by decide +kernel
theorem dX9_locked_35 : decode cX9_locked 35 = .ok (.iaload, 1) := by decide +kernel
theorem dX9_locked_36 : decode cX9_locked 36 = .ok (.iastore, 1) := by decide +kernel
theorem dX9_locked_37 : decode cX9_locked 37 = .ok (.goto 49, 3) := by decide +kernel
theorem dX9_locked_40 : decode cX9_locked 40 = .ok (.iload_n 1, 1) := by decide +kernel
theorem dX9_locked_41 : decode cX9_locked 41 = .ok (.bipush 6, 2) := by decide +kernel
theorem dX9_locked_43 : decode cX9_locked 43 = .ok (.if_icmp .ne 20, 3) := by decide +kernel
theorem dX9_locked_46 : decode cX9_locked 46 = .ok (.aload_n 0, 1) := by decide +kernel
theorem dX9_locked_47 : decode cX9_locked 47 = .ok (.getfield 75, 3) := by decide +kernel
theorem dX9_locked_5 : decode cX9_locked 5 = .ok (.return_, 1) := by decide +kernel
theorem dX9_locked_50 : decode cX9_locked 50 = .ok (.bipush 12, 2) := by decide +kernel
theorem dX9_locked_52 : decode cX9_locked 52 = .ok (.iload_n 3, 1) := by decide +kernel
theorem dX9_locked_53 : decode cX9_locked 53 = .ok (.iadd, 1) := by decide +kernel
theorem dX9_locked_54 : decode cX9_locked 54 = .ok (.iload 6, 2) := by decide +kernel
theorem dX9_locked_56 : decode cX9_locked 56 = .ok (.iload 4, 2) := by decide +kernel
theorem dX9_locked_58 : decode cX9_locked 58 = .ok (.iadd, 1) := by decide +kernel
theorem dX9_locked_59 : decode cX9_locked 59 = .ok (.iastore, 1) := by decide +kernel
theorem dX9_locked_6 : decode cX9_locked 6 = .ok (.aload_n 0, 1) := by decide +kernel
theorem dX9_locked_60 : decode cX9_locked 60 = .ok (.goto 26, 3) := by decide +kernel
theorem dX9_locked_63 : decode cX9_locked 63 = .ok (.aload_n 0, 1) := by decide +kernel
theorem dX9_locked_64 : decode cX9_locked 64 = .ok (.getfield 75, 3) := by decide +kernel
theorem dX9_locked_67 : decode cX9_locked 67 = .ok (.bipush 12, 2) := by decide +kernel
theorem dX9_locked_69 : decode cX9_locked 69 = .ok (.iload_n 3, 1) := by decide +kernel
theorem dX9_locked_7 : decode cX9_locked 7 = .ok (.getfield 75, 3) := by decide +kernel
theorem dX9_locked_70 : decode cX9_locked 70 = .ok (.iadd, 1) := by decide +kernel
theorem dX9_locked_71 : decode cX9_locked 71 = .ok (.iload 6, 2) := by decide +kernel
theorem dX9_locked_73 : decode cX9_locked 73 = .ok (.iload 4, 2) := by decide +kernel
theorem dX9_locked_75 : decode cX9_locked 75 = .ok (.if_icmp .ne 8, 3) := by decide +kernel
theorem dX9_locked_78 : decode cX9_locked 78 = .ok (.iload 5, 2) := by decide +kernel
theorem dX9_locked_80 : decode cX9_locked 80 = .ok (.goto 5, 3) := by decide +kernel
theorem dX9_locked_83 : decode cX9_locked 83 = .ok (.iload 6, 2) := by decide +kernel
theorem dX9_locked_85 : decode cX9_locked 85 = .ok (.iastore, 1) := by decide +kernel
theorem dX9_locked_86 : decode cX9_locked 86 = .ok (.aload_n 0, 1) := by decide +kernel
theorem dX9_locked_87 : decode cX9_locked 87 = .ok (.getfield 75, 3) := by decide +kernel
theorem dX9_locked_90 : decode cX9_locked 90 = .ok (.iload_n 2, 1) := by decide +kernel
theorem dX9_locked_91 : decode cX9_locked 91 = .ok (.iload 6, 2) := by decide +kernel
theorem dX9_locked_93 : decode cX9_locked 93 = .ok (.iastore, 1) := by decide +kernel
theorem dX9_locked_94 : decode cX9_locked 94 = .ok (.return_, 1) := by decide +kernel
theorem dX9_put_0 : decode cX9_put 0 = .ok (.iload 4, 2) := by decide +kernel
theorem dX9_put_11 : decode cX9_put 11 = .ok (.iload_n 2, 1) := by decide +kernel
theorem dX9_put_12 : decode cX9_put 12 = .ok (.iadd, 1) := by decide +kernel
theorem dX9_put_13 : decode cX9_put 13 = .ok (.iload_n 3, 1) := by decide +kernel
theorem dX9_put_14 : decode cX9_put 14 = .ok (.iastore, 1) := by decide +kernel
theorem dX9_put_15 : decode cX9_put 15 = .ok (.return_, 1) := by decide +kernel
theorem dX9_put_16 : decode cX9_put 16 = .ok (.iload_n 1, 1) := by decide +kernel
theorem dX9_put_17 : decode cX9_put 17 = .ok (.invokestatic 267, 3) := by decide +kernel
theorem dX9_put_2 : decode cX9_put 2 = .ok (.ifCond .ne 14, 3) := by decide +kernel
theorem dX9_put_20 : decode cX9_put 20 = .ok (.istore 5, 2) := by decide +kernel
theorem dX9_put_22 : decode cX9_put 22 = .ok (.aload_n 0, 1) := by decide +kernel
theorem dX9_put_23 : decode cX9_put 23 = .ok (.getfield 75, 3) := by decide +kernel
theorem dX9_put_26 : decode cX9_put 26 = .ok (.iload 5, 2) := by decide +kernel
theorem dX9_put_28 : decode cX9_put 28 = .ok (.iconst 1, 1) := by decide +kernel
theorem dX9_put_29 : decode cX9_put 29 = .ok (.iadd, 1) := by decide +kernel
theorem dX9_put_30 : decode cX9_put 30 = .ok (.iconst 2, 1) := by decide +kernel
theorem dX9_put_31 : decode cX9_put 31 = .ok (.aload_n 0, 1) := by decide +kernel
theorem dX9_put_32 : decode cX9_put 32 = .ok (.getfield 75, 3) := by decide +kernel
theorem dX9_put_35 : decode cX9_put 35 = .ok (.iload 5, 2) := by decide +kernel
theorem dX9_put_37 : decode cX9_put 37 = .ok (.iaload, 1) := by decide +kernel
theorem dX9_put_38 : decode cX9_put 38 = .ok (.imul, 1) := by decide +kernel
theorem dX9_put_39 : decode cX9_put 39 = .ok (.iadd, 1) := by decide +kernel
theorem dX9_put_40 : decode cX9_put 40 = .ok (.iload_n 2, 1) := by decide +kernel
theorem dX9_put_41 : decode cX9_put 41 = .ok (.iastore, 1) := by decide +kernel
theorem dX9_put_42 : decode cX9_put 42 = .ok (.aload_n 0, 1) := by decide +kernel
theorem dX9_put_43 : decode cX9_put 43 = .ok (.getfield 75, 3) := by decide +kernel
theorem dX9_put_46 : decode cX9_put 46 = .ok (.iload 5, 2) := by decide +kernel
theorem dX9_put_48 : decode cX9_put 48 = .ok (.iconst 2, 1) := by decide +kernel
theorem dX9_put_49 : decode cX9_put 49 = .ok (.iadd, 1) := by decide +kernel
theorem dX9_put_5 : decode cX9_put 5 = .ok (.aload_n 0, 1) := by decide +kernel
theorem dX9_put_50 : decode cX9_put 50 = .ok (.iconst 2, 1) := by decide +kernel
theorem dX9_put_51 : decode cX9_put 51 = .ok (.aload_n 0, 1) := by decide +kernel
theorem dX9_put_52 : decode cX9_put 52 = .ok (.getfield 75, 3) := by decide +kernel
theorem dX9_put_55 : decode cX9_put 55 = .ok (.iload 5, 2) := by decide +kernel
theorem dX9_put_57 : decode cX9_put 57 = .ok (.iaload, 1) := by decide +kernel
theorem dX9_put_58 : decode cX9_put 58 = .ok (.imul, 1) := by decide +kernel
theorem dX9_put_59 : decode cX9_put 59 = .ok (.iadd, 1) := by decide +kernel
theorem dX9_put_6 : decode cX9_put 6 = .ok (.getfield 75, 3) := by decide +kernel
theorem dX9_put_60 : decode cX9_put 60 = .ok (.iload_n 3, 1) := by decide +kernel
theorem dX9_put_61 : decode cX9_put 61 = .ok (.iastore, 1) := by decide +kernel
theorem dX9_put_62 : decode cX9_put 62 = .ok (.aload_n 0, 1) := by decide +kernel
theorem dX9_put_63 : decode cX9_put 63 = .ok (.getfield 75, 3) := by decide +kernel
theorem dX9_put_66 : decode cX9_put 66 = .ok (.iload 5, 2) := by decide +kernel
theorem dX9_put_68 : decode cX9_put 68 = .ok (.dup2, 1) := by decide +kernel
theorem dX9_put_69 : decode cX9_put 69 = .ok (.iaload, 1) := by decide +kernel
theorem dX9_put_70 : decode cX9_put 70 = .ok (.iconst 1, 1) := by decide +kernel
theorem dX9_put_71 : decode cX9_put 71 = .ok (.iadd, 1) := by decide +kernel
theorem dX9_put_72 : decode cX9_put 72 = .ok (.iastore, 1) := by decide +kernel
theorem dX9_put_73 : decode cX9_put 73 = .ok (.return_, 1) := by decide +kernel
theorem dX9_put_9 : decode cX9_put 9 = .ok (.bipush 12, 2) := by decide +kernel
theorem dX9_taken_0 : decode cX9_taken 0 = .ok (.iload_n 2, 1) := by decide +kernel
theorem dX9_taken_1 : decode cX9_taken 1 = .ok (.ifCond .ge 7, 3) := by decide +kernel
theorem dX9_taken_12 : decode cX9_taken 12 = .ok (.iconst 3, 1) := by decide +kernel
theorem dX9_taken_13 : decode cX9_taken 13 = .ok (.iconst 3, 1) := by decide +kernel
theorem dX9_taken_14 : decode cX9_taken 14 = .ok (.iload_n 1, 1) := by decide +kernel
theorem dX9_taken_15 : decode cX9_taken 15 = .ok (.imul, 1) := by decide +kernel
theorem dX9_taken_16 : decode cX9_taken 16 = .ok (.iadd, 1) := by decide +kernel
theorem dX9_taken_17 : decode cX9_taken 17 = .ok (.iload_n 2, 1) := by decide +kernel
theorem dX9_taken_18 : decode cX9_taken 18 = .ok (.iadd, 1) := by decide +kernel
theorem dX9_taken_19 : decode cX9_taken 19 = .ok (.iaload, 1) := by decide +kernel
theorem dX9_taken_20 : decode cX9_taken 20 = .ok (.ireturn, 1) := by decide +kernel
theorem dX9_taken_4 : decode cX9_taken 4 = .ok (.iload_n 3, 1) := by decide +kernel
theorem dX9_taken_5 : decode cX9_taken 5 = .ok (.goto 15, 3) := by decide +kernel
theorem dX9_taken_8 : decode cX9_taken 8 = .ok (.aload_n 0, 1) := by decide +kernel
theorem dX9_taken_9 : decode cX9_taken 9 = .ok (.getfield 75, 3) := by decide +kernel
/-- the reference's STATE: which INS is next, how many stores wait, their CELLS -/
def gW9 (w : Nat → Int32) (nx rz : Nat → Nat) : Prop := ∀ k, k < 3 → w k = nI (nx k) ∧ w (16 + (13 * k)) = nI (rz k) ∧ nx k ≤ 1200 ∧ rz k ≤ 6 ∧ ∀ i, i < rz k → ∃ x, x < 4 ∧ w (((16 + (13 * k)) + 1) + (2 * i)) = nI x
theorem gW9_out {w : Nat → Int32} {nx rz : Nat → Nat} {i : Nat} {v : Int32} (h : gW9 w nx rz) (hi : (3 ≤ i ∧ i < 16) ∨ 55 ≤ i) : gW9 (upd w i v) nx rz := by
  intro k hk
  obtain ⟨h1, h2, h3, h4, h5⟩ := h k hk
  refine ⟨by rw [pk_un (by omega)]; exact h1, by rw [pk_un (by omega)]; exact h2, h3, h4, fun j hj => ?_⟩
  obtain ⟨x, a, b⟩ := h5 j hj
  exact ⟨x, a, by rw [pk_un (by omega)]; exact b⟩
theorem gW9_next {w : Nat → Int32} {nx rz : Nat → Nat} {k n : Nat} (h : gW9 w nx rz) (hk : k < 3) (hn : n ≤ 1200) : gW9 (upd w k (nI n)) (updN nx k n) rz := by
  intro j hj
  obtain ⟨h1, h2, h3, h4, h5⟩ := h j hj
  refine ⟨?_, by rw [pk_un (by omega)]; exact h2, ?_, h4, fun i hi => ?_⟩
  · by_cases e : j = k
    · subst e; rw [pk_us, updN_s]
    · rw [pk_un e, updN_n e]; exact h1
  · by_cases e : j = k
    · subst e; rw [updN_s]; exact hn
    · rw [updN_n e]; exact h3
  · obtain ⟨x, a, b⟩ := h5 i hi
    exact ⟨x, a, by rw [pk_un (by omega)]; exact b⟩
theorem gW9_put {w : Nat → Int32} {nx rz : Nat → Nat} {k x : Nat} {v : Int32} (h : gW9 w nx rz) (hk : k < 3) (hx : x < 4) (hz : rz k < 6) : gW9 (upd (upd (upd w (((16 + (13 * k)) + 1) + (2 * rz k)) (nI x)) (((16 + (13 * k)) + 2) + (2 * rz k)) v) (16 + (13 * k)) (nI (rz k + 1))) nx (updN rz k (rz k + 1)) := by
  intro j hj
  obtain ⟨h1, h2, h3, h4, h5⟩ := h j hj
  refine ⟨by rw [pk_un (by omega), pk_un (by omega), pk_un (by omega)]; exact h1, ?_, h3, ?_, fun i hi => ?_⟩
  · by_cases e : j = k
    · subst e; rw [pk_us, updN_s]
    · rw [pk_un (by omega), pk_un (by omega), pk_un (by omega), updN_n e]; exact h2
  · by_cases e : j = k
    · subst e; rw [updN_s]; omega
    · rw [updN_n e]; exact h4
  · by_cases e : j = k
    · subst e
      rw [updN_s] at hi
      by_cases e2 : i = rz j
      · subst e2
        exact ⟨x, hx, by rw [pk_un (by omega), pk_un (by omega), pk_us]⟩
      · obtain ⟨y, a, b⟩ := h5 i (by omega)
        exact ⟨y, a, by rw [pk_un (by omega), pk_un (by omega), pk_un (by omega)]; exact b⟩
    · rw [updN_n e] at hi
      obtain ⟨y, a, b⟩ := h5 i hi
      exact ⟨y, a, by rw [pk_un (by omega), pk_un (by omega), pk_un (by omega)]; exact b⟩
/-- what can be done -/
def gCan9 (C Mn nx rz : Nat → Nat) (pr : Nat) (mode x : Int32) : Prop := (∃ k, k < C pr ∧ k < 3 ∧ x = nI (3 + k) ∧ 0 < rz k ∧ mode = 1) ∨ (∃ k, k < C pr ∧ k < 3 ∧ x = nI k ∧ nx k < Mn ((3 * pr) + k))
def wsP_c_taken9 : List Cond := .code yX9_taken cX9_taken 4 (some .int) :: (([.fieldLink RX9 75 "LitmusHallModel" "now" "[I"] ++ wsX90) ++ [])
theorem gW_c_taken9 : wsP_c_taken9.all goodWord = true := by unfold wsP_c_taken9; exact gw_mk (by decide +kernel) rfl
set_option maxHeartbeats 4000000 in
set_option maxRecDepth 100000 in
theorem c_taken9 (l : Launch) (D : va_G) (cI cB cZ : ClassId) (h0 : Nat) (a22 : Nat) (v0 : Value) (v1 : Value) (v2 : Value) (v3 : Value) (v4 : Value) (v5 : Value) (v6 : Value) (v7 : Value) (v8 : Value) (v9 : Value) (v10 : Value) (v11 : Value) (v12 : Value) (v13 : Value) (v14 : Value) (v15 : Value) (v16 : Value) (v17 : Value) (v18 : Value) (v19 : Value) (v20 : Value) (v21 : Value) (v23 : Value) (v24 : Value) (v25 : Value) (v26 : Value) (v27 : Value) (v28 : Value) (v29 : Value) (v30 : Value) (v31 : Value) (v32 : Value) (v33 : Value) (v34 : Value) (v35 : Value) (v36 : Value) (v37 : Value) (v38 : Value) (v39 : Value) (v40 : Value) (v41 : Value) (v42 : Value) (v43 : Value) (v44 : Value) (v45 : Value) (v46 : Value) (v47 : Value) (v48 : Value) (v49 : Value) (v50 : Value) (v51 : Value) (nw : Nat → Int32) (k : Nat) (r : Int32) (v : Int32) (hk : k < 3) (hr0 : r = (-1) ∨ ∃ q, q < 3 ∧ r = nI q) : gMi l yX9_taken wsP_c_taken9 ({ frames := 0, cells := 0, slots := 0, locals := 0 }) D cI cB cZ [] [.ref h0, .int (nI k), .int r, .int v] [(h0, .inr (9, [v0, v1, v2, v3, v4, v5, v6, v7, v8, v9, v10, v11, v12, v13, v14, v15, v16, v17, v18, v19, v20, v21, .ref a22, v23, v24, v25, v26, v27, v28, v29, v30, v31, v32, v33, v34, v35, v36, v37, v38, v39, v40, v41, v42, v43, v44, v45, v46, v47, v48, v49, v50, v51])), (a22, .inl (cI, 58, .inl nw))] (fun r9 w9 => ∃ z : Int32, r9 = z ∧ w9 = [(h0, .inr (9, [v0, v1, v2, v3, v4, v5, v6, v7, v8, v9, v10, v11, v12, v13, v14, v15, v16, v17, v18, v19, v20, v21, .ref a22, v23, v24, v25, v26, v27, v28, v29, v30, v31, v32, v33, v34, v35, v36, v37, v38, v39, v40, v41, v42, v43, v44, v45, v46, v47, v48, v49, v50, v51])), (a22, .inl (cI, 58, .inl nw))]) := by
  refine gMi.of (cc := cX9_taken) (maxL := 4) (ret := (some .int)) (by decide) rfl (Nat.le_of_ble_eq_true rfl) (fun p e s m below meth c A ls hx hb hr hlk hml hts hown hin hA hP hK hD hS hN hl => ?_)
  have hown : s.vm.findClass RX9 = some m.cls := hown
  have hl : lv_has ls 4 [(0, .ref h0), (1, .int (nI k)), (2, .int r), (3, .int v)] := hl
  refine lv_iload_n hx hb dX9_taken_0 rfl (lv_at hl 2 rfl) ?_
  refine lv_if_ge (tgt := 8) hx hb dX9_taken_1 (by decide) (fun c_1 => ?_) (fun c_1 => ?_)
  · obtain ⟨q, hq, rfl⟩ := hr0.resolve_left (fun e9 => absurd c_1 (by rw [e9]; decide))
    have hl : lv_has ls 4 [(0, .ref h0), (1, .int (nI k)), (2, .int (nI q)), (3, .int v)] := hl
    refine lv_aload_n hx hb dX9_taken_8 rfl (lv_at hl 0 rfl) ?_
    refine va_get (D := D) (ci := 9) (v := .ref a22) (C := RX9) (T := TX9) (N := 52) hx hb hts (fun _ h => List.mem_cons_of_mem _ (List.mem_append_left _ (List.mem_append_right _ h))) hown hK hP 0 rfl rfl 22 (by decide) (hts (.fieldLink RX9 75 "LitmusHallModel" "now" "[I") (by decide +kernel)) (fun _ h9 => h9) rfl dX9_taken_9 ?_
    refine lv_iconst (v := 3) hx hb dX9_taken_12 (by decide) ?_
    refine lv_iconst (v := 3) hx hb dX9_taken_13 (by decide) ?_
    refine lv_iload_n hx hb dX9_taken_14 rfl (lv_at hl 1 rfl) ?_
    refine lv_imul hx hb dX9_taken_15 ?_
    refine gx_top (y := nI (3 * k)) (pk_mul 3 k) ?_
    refine lv_iadd hx hb dX9_taken_16 ?_
    refine gx_top (y := nI (3 + (3 * k))) (nI_add 3 (3 * k)) ?_
    refine lv_iload_n hx hb dX9_taken_17 rfl (lv_at hl 2 rfl) ?_
    refine lv_iadd hx hb dX9_taken_18 ?_
    refine gx_top (y := nI ((3 + (3 * k)) + q)) (nI_add (3 + (3 * k)) q) ?_
    refine gy_ild (i := ((3 + (3 * k)) + q)) hx hb hK hP 1 rfl (by omega) (by omega) dX9_taken_19 ?_
    refine gx_gen (fun z_2 => ?_)
    exact gx_iret (w' := [(h0, .inr (9, [v0, v1, v2, v3, v4, v5, v6, v7, v8, v9, v10, v11, v12, v13, v14, v15, v16, v17, v18, v19, v20, v21, .ref a22, v23, v24, v25, v26, v27, v28, v29, v30, v31, v32, v33, v34, v35, v36, v37, v38, v39, v40, v41, v42, v43, v44, v45, v46, v47, v48, v49, v50, v51])), (a22, .inl (cI, 58, .inl nw))]) hx hb hr hlk hK hP hD hS (Nat.le_of_ble_eq_true rfl) (Nat.le_of_ble_eq_true rfl) dX9_taken_20 ⟨z_2, rfl, rfl⟩
  · refine lv_iload_n hx hb dX9_taken_4 rfl (lv_at hl 3 rfl) ?_
    refine lv_goto (tgt := 20) hx hb dX9_taken_5 (by decide) ?_
    exact gx_iret (w' := [(h0, .inr (9, [v0, v1, v2, v3, v4, v5, v6, v7, v8, v9, v10, v11, v12, v13, v14, v15, v16, v17, v18, v19, v20, v21, .ref a22, v23, v24, v25, v26, v27, v28, v29, v30, v31, v32, v33, v34, v35, v36, v37, v38, v39, v40, v41, v42, v43, v44, v45, v46, v47, v48, v49, v50, v51])), (a22, .inl (cI, 58, .inl nw))]) hx hb hr hlk hK hP hD hS (Nat.le_of_ble_eq_true rfl) (Nat.le_of_ble_eq_true rfl) dX9_taken_20 ⟨v, rfl, rfl⟩
def wsP_c_loaded9 : List Cond := .code yX9_loaded cX9_loaded 5 (some .int) :: (([.methodLink RX9 267 yX9_rowAt, .static yX9_rowAt, .initialized yX9_rowAt.cls, .fieldLink RX9 75 "LitmusHallModel" "now" "[I"] ++ wsX90) ++ (wsP_c_rowAt9 ++ []))
theorem gW_c_loaded9 : wsP_c_loaded9.all goodWord = true := by unfold wsP_c_loaded9; exact gw_mk (by decide +kernel) (gw_app gW_c_rowAt9 rfl)
set_option maxRecDepth 20000 in
theorem gP_c_loaded9__c_rowAt9 : GoodIn wsP_c_loaded9 (va_wsS RX9 267 yX9_rowAt wsP_c_rowAt9) := gw_in (pre := [.methodLink RX9 267 yX9_rowAt, .static yX9_rowAt, .initialized yX9_rowAt.cls]) (by decide +kernel) (fun _ h => List.mem_cons_of_mem _ (List.mem_append_right _ (List.mem_append_left _ h))) gW_c_rowAt9
set_option maxHeartbeats 4000000 in
set_option maxRecDepth 100000 in
theorem c_loaded9 (l : Launch) (D : va_G) (cI cB cZ : ClassId) (h0 : Nat) (a22 : Nat) (v0 : Value) (v1 : Value) (v2 : Value) (v3 : Value) (v4 : Value) (v5 : Value) (v6 : Value) (v7 : Value) (v8 : Value) (v9 : Value) (v10 : Value) (v11 : Value) (v12 : Value) (v13 : Value) (v14 : Value) (v15 : Value) (v16 : Value) (v17 : Value) (v18 : Value) (v19 : Value) (v20 : Value) (v21 : Value) (v23 : Value) (v24 : Value) (v25 : Value) (v26 : Value) (v27 : Value) (v28 : Value) (v29 : Value) (v30 : Value) (v31 : Value) (v32 : Value) (v33 : Value) (v34 : Value) (v35 : Value) (v36 : Value) (v37 : Value) (v38 : Value) (v39 : Value) (v40 : Value) (v41 : Value) (v42 : Value) (v43 : Value) (v44 : Value) (v45 : Value) (v46 : Value) (v47 : Value) (v48 : Value) (v49 : Value) (v50 : Value) (v51 : Value) (nw : Nat → Int32) (nx : Nat → Nat) (rz : Nat → Nat) (k : Nat) (x : Nat) (hk : k < 3) (hx0 : x < 4) (hG : gW9 nw nx rz) : gMi l yX9_loaded wsP_c_loaded9 ({ frames := 1, cells := 0, slots := 0, locals := 20 }) D cI cB cZ [] [.ref h0, .int (nI k), .int (nI x)] [(h0, .inr (9, [v0, v1, v2, v3, v4, v5, v6, v7, v8, v9, v10, v11, v12, v13, v14, v15, v16, v17, v18, v19, v20, v21, .ref a22, v23, v24, v25, v26, v27, v28, v29, v30, v31, v32, v33, v34, v35, v36, v37, v38, v39, v40, v41, v42, v43, v44, v45, v46, v47, v48, v49, v50, v51])), (a22, .inl (cI, 58, .inl nw))] (fun r9 w9 => ∃ z : Int32, r9 = z ∧ w9 = [(h0, .inr (9, [v0, v1, v2, v3, v4, v5, v6, v7, v8, v9, v10, v11, v12, v13, v14, v15, v16, v17, v18, v19, v20, v21, .ref a22, v23, v24, v25, v26, v27, v28, v29, v30, v31, v32, v33, v34, v35, v36, v37, v38, v39, v40, v41, v42, v43, v44, v45, v46, v47, v48, v49, v50, v51])), (a22, .inl (cI, 58, .inl nw))]) := by
  refine gMi.of (cc := cX9_loaded) (maxL := 5) (ret := (some .int)) (by decide) rfl (Nat.le_of_ble_eq_true rfl) (fun p e s m below meth c A ls hx hb hr hlk hml hts hown hin hA hP hK hD hS hN hl => ?_)
  have hown : s.vm.findClass RX9 = some m.cls := hown
  have hl : lv_has ls 5 [(0, .ref h0), (1, .int (nI k)), (2, .int (nI x))] := hl
  obtain ⟨e1, e2, e3, e4, e5⟩ := hG (k) (by omega)
  refine lv_iload_n hx hb dX9_loaded_0 rfl (lv_at hl 1 rfl) ?_
  refine gx_goi (wc := []) (wr := [(h0, .inr (9, [v0, v1, v2, v3, v4, v5, v6, v7, v8, v9, v10, v11, v12, v13, v14, v15, v16, v17, v18, v19, v20, v21, .ref a22, v23, v24, v25, v26, v27, v28, v29, v30, v31, v32, v33, v34, v35, v36, v37, v38, v39, v40, v41, v42, v43, v44, v45, v46, v47, v48, v49, v50, v51])), (a22, .inl (cI, 58, .inl nw))]) (va_runS (As := [.int (nI k)]) (rest := []) ⟨hx, hb, hml, hown, hts⟩ (c_rowAt9 l D cI cB cZ k _) (va_cwS 1 hts gP_c_loaded9__c_rowAt9 rfl rfl rfl (by decide +kernel) ⟨Nat.le_of_ble_eq_true rfl, Nat.le_of_ble_eq_true rfl⟩) (gx_preS hK gN.nil hP hD [] rfl rfl) rfl rfl hl.1 rfl (lv_room (Nat.le_of_ble_eq_true rfl)) dX9_loaded_1 ⟨Nat.le_of_ble_eq_true rfl, Nat.le_of_ble_eq_true rfl⟩) hP hD hS hA [] [0, 1] rfl rfl rfl (by decide) (fun r1 w1 H locs hp hP hD hS => ?_)
  obtain ⟨h9, rfl⟩ := hp
  have h9 := h9.symm
  subst h9
  refine lv_istore_n (lv' := [(3, .int (nI (16 + (13 * k)))), (0, .ref h0), (1, .int (nI k)), (2, .int (nI x))]) hx hb dX9_loaded_4 rfl hl (by decide) rfl (fun ls hl => ?_)
  refine lv_aload_n hx hb dX9_loaded_5 rfl (lv_at hl 1 rfl) ?_
  refine va_get (D := D) (ci := 9) (v := .ref a22) (C := RX9) (T := TX9) (N := 52) hx hb hts (fun _ h => List.mem_cons_of_mem _ (List.mem_append_left _ (List.mem_append_right _ h))) hown hK hP 0 rfl rfl 22 (by decide) (hts (.fieldLink RX9 75 "LitmusHallModel" "now" "[I") (by decide +kernel)) (fun _ h9 => h9) rfl dX9_loaded_6 ?_
  refine lv_iload_n hx hb dX9_loaded_9 rfl (lv_at hl 0 rfl) ?_
  refine gy_ild (i := (16 + (13 * k))) hx hb hK hP 1 rfl (by omega) (by omega) dX9_loaded_10 ?_
  refine gx_top (y := nI (rz k)) e2 ?_
  refine lv_iconst (v := 1) hx hb dX9_loaded_11 (by decide) ?_
  refine lv_isub hx hb dX9_loaded_12 ?_
  refine lv_istore (lv' := [(4, .int (nI (rz k) - 1)), (3, .int (nI (16 + (13 * k)))), (0, .ref h0), (1, .int (nI k)), (2, .int (nI x))]) hx hb dX9_loaded_13 hl (by decide) rfl (fun ls hl => ?_)
  have hP : va_P D vwCl [(h0, .inr (9, [v0, v1, v2, v3, v4, v5, v6, v7, v8, v9, v10, v11, v12, v13, v14, v15, v16, v17, v18, v19, v20, v21, .ref a22, v23, v24, v25, v26, v27, v28, v29, v30, v31, v32, v33, v34, v35, v36, v37, v38, v39, v40, v41, v42, v43, v44, v45, v46, v47, v48, v49, v50, v51])), (a22, .inl (cI, 58, .inl nw))] H := hP
  have hD : va_D A [(h0, .inr (9, [v0, v1, v2, v3, v4, v5, v6, v7, v8, v9, v10, v11, v12, v13, v14, v15, v16, v17, v18, v19, v20, v21, .ref a22, v23, v24, v25, v26, v27, v28, v29, v30, v31, v32, v33, v34, v35, v36, v37, v38, v39, v40, v41, v42, v43, v44, v45, v46, v47, v48, v49, v50, v51])), (a22, .inl (cI, 58, .inl nw))] := hD
  refine gy_loop0 (I := fun (x9 : Nat) H locs ls => (x9 ≤ 6) ∧ va_P D vwCl [(h0, .inr (9, [v0, v1, v2, v3, v4, v5, v6, v7, v8, v9, v10, v11, v12, v13, v14, v15, v16, v17, v18, v19, v20, v21, .ref a22, v23, v24, v25, v26, v27, v28, v29, v30, v31, v32, v33, v34, v35, v36, v37, v38, v39, v40, v41, v42, v43, v44, v45, v46, v47, v48, v49, v50, v51])), (a22, .inl (cI, 58, .inl nw))] H ∧ va_D A [(h0, .inr (9, [v0, v1, v2, v3, v4, v5, v6, v7, v8, v9, v10, v11, v12, v13, v14, v15, v16, v17, v18, v19, v20, v21, .ref a22, v23, v24, v25, v26, v27, v28, v29, v30, v31, v32, v33, v34, v35, v36, v37, v38, v39, v40, v41, v42, v43, v44, v45, v46, v47, v48, v49, v50, v51])), (a22, .inl (cI, 58, .inl nw))] ∧ va_S A s.heap H locs ∧ lv_has ls 5 [(4, .int (nI x9 - 1)), (3, .int (nI (16 + (13 * k)))), (0, .ref h0), (1, .int (nI k)), (2, .int (nI x))]) (μ := fun (x9 : Nat) => x9) (fun x9 H locs ls hI ih15 => ?_) (rz k) ⟨e4, hP, hD, hS, lv_sub hl [0, 1, 2, 3, 4] rfl⟩
  obtain ⟨i, rfl⟩ : ∃ z9, z9 = x9 := ⟨_, rfl⟩
  obtain ⟨hi15_0, hP, hD, hS, hl⟩ := hI
  have hi15_0 : i ≤ 6 := hi15_0
  have hP : va_P D vwCl [(h0, .inr (9, [v0, v1, v2, v3, v4, v5, v6, v7, v8, v9, v10, v11, v12, v13, v14, v15, v16, v17, v18, v19, v20, v21, .ref a22, v23, v24, v25, v26, v27, v28, v29, v30, v31, v32, v33, v34, v35, v36, v37, v38, v39, v40, v41, v42, v43, v44, v45, v46, v47, v48, v49, v50, v51])), (a22, .inl (cI, 58, .inl nw))] H := hP
  have hD : va_D A [(h0, .inr (9, [v0, v1, v2, v3, v4, v5, v6, v7, v8, v9, v10, v11, v12, v13, v14, v15, v16, v17, v18, v19, v20, v21, .ref a22, v23, v24, v25, v26, v27, v28, v29, v30, v31, v32, v33, v34, v35, v36, v37, v38, v39, v40, v41, v42, v43, v44, v45, v46, v47, v48, v49, v50, v51])), (a22, .inl (cI, 58, .inl nw))] := hD
  have hS : va_S A s.heap H locs := hS
  have hl : lv_has ls 5 [(4, .int (nI i - 1)), (3, .int (nI (16 + (13 * k)))), (0, .ref h0), (1, .int (nI k)), (2, .int (nI x))] := hl
  refine lv_iload hx hb dX9_loaded_15 (lv_at hl 0 rfl) ?_
  refine lv_if_lt (tgt := 57) hx hb dX9_loaded_17 (by decide) (fun c_1 => ?_) (fun c_1 => ?_)
  · have c_1 : i = 0 := gy_m1z (by omega) c_1
    refine lv_aload_n hx hb dX9_loaded_57 rfl (lv_at hl 2 rfl) ?_
    refine va_get (D := D) (ci := 9) (v := .ref a22) (C := RX9) (T := TX9) (N := 52) hx hb hts (fun _ h => List.mem_cons_of_mem _ (List.mem_append_left _ (List.mem_append_right _ h))) hown hK hP 0 rfl rfl 22 (by decide) (hts (.fieldLink RX9 75 "LitmusHallModel" "now" "[I") (by decide +kernel)) (fun _ h9 => h9) rfl dX9_loaded_58 ?_
    refine lv_bipush (v := 12) hx hb dX9_loaded_61 (by decide) ?_
    refine lv_iload_n hx hb dX9_loaded_63 rfl (lv_at hl 4 rfl) ?_
    refine lv_iadd hx hb dX9_loaded_64 ?_
    refine gx_top (y := nI (12 + x)) (nI_add 12 x) ?_
    refine gy_ild (i := (12 + x)) hx hb hK hP 1 rfl (by omega) (by omega) dX9_loaded_65 ?_
    refine gx_gen (fun z_2 => ?_)
    exact gx_iret (w' := [(h0, .inr (9, [v0, v1, v2, v3, v4, v5, v6, v7, v8, v9, v10, v11, v12, v13, v14, v15, v16, v17, v18, v19, v20, v21, .ref a22, v23, v24, v25, v26, v27, v28, v29, v30, v31, v32, v33, v34, v35, v36, v37, v38, v39, v40, v41, v42, v43, v44, v45, v46, v47, v48, v49, v50, v51])), (a22, .inl (cI, 58, .inl nw))]) hx hb hr hlk hK hP hD hS (Nat.le_of_ble_eq_true rfl) (Nat.le_of_ble_eq_true rfl) dX9_loaded_66 ⟨z_2, rfl, rfl⟩
  · have c_1 : 0 < i := gy_m1p (by omega) c_1
    have em : nI i - 1 = nI (i - 1) := pk_sub (a := i) (b := 1) (by omega)
    rw [em] at hl
    have hl : lv_has ls 5 [(4, .int (nI (i - 1))), (3, .int (nI (16 + (13 * k)))), (0, .ref h0), (1, .int (nI k)), (2, .int (nI x))] := hl
    refine lv_aload_n hx hb dX9_loaded_20 rfl (lv_at hl 2 rfl) ?_
    refine va_get (D := D) (ci := 9) (v := .ref a22) (C := RX9) (T := TX9) (N := 52) hx hb hts (fun _ h => List.mem_cons_of_mem _ (List.mem_append_left _ (List.mem_append_right _ h))) hown hK hP 0 rfl rfl 22 (by decide) (hts (.fieldLink RX9 75 "LitmusHallModel" "now" "[I") (by decide +kernel)) (fun _ h9 => h9) rfl dX9_loaded_21 ?_
    refine lv_iload_n hx hb dX9_loaded_24 rfl (lv_at hl 1 rfl) ?_
    refine lv_iconst (v := 1) hx hb dX9_loaded_25 (by decide) ?_
    refine lv_iadd hx hb dX9_loaded_26 ?_
    refine gx_top (y := nI ((16 + (13 * k)) + 1)) (nI_add (16 + (13 * k)) 1) ?_
    refine lv_iconst (v := 2) hx hb dX9_loaded_27 (by decide) ?_
    refine lv_iload hx hb dX9_loaded_28 (lv_at hl 0 rfl) ?_
    refine lv_imul hx hb dX9_loaded_30 ?_
    refine gx_top (y := nI (2 * (i - 1))) (pk_mul 2 (i - 1)) ?_
    refine lv_iadd hx hb dX9_loaded_31 ?_
    refine gx_top (y := nI (((16 + (13 * k)) + 1) + (2 * (i - 1)))) (nI_add ((16 + (13 * k)) + 1) (2 * (i - 1))) ?_
    refine gy_ild (i := (((16 + (13 * k)) + 1) + (2 * (i - 1)))) hx hb hK hP 1 rfl (by omega) (by omega) dX9_loaded_32 ?_
    refine gx_gen (fun z_3 => ?_)
    refine lv_iload_n hx hb dX9_loaded_33 rfl (lv_at hl 4 rfl) ?_
    refine lv_icmp_ne (tgt := 51) hx hb dX9_loaded_34 (by decide) (fun c_4 => ?_) (fun c_4 => ?_)
    · refine lv_iinc (v := nI (i - 1) - 1) (lv' := [(4, .int (nI (i - 1) - 1)), (3, .int (nI (16 + (13 * k)))), (0, .ref h0), (1, .int (nI k)), (2, .int (nI x))]) hx hb dX9_loaded_51 hl (k := 0) rfl (gy_dec (i - 1)) (by decide) rfl (fun ls hl => ?_)
      refine lv_goto (tgt := 15) hx hb dX9_loaded_54 (by decide) ?_
      exact ih15 (i - 1) H locs ls ⟨(by show (i - 1) ≤ 6; omega), hP, hD, hS, lv_sub hl [0, 1, 2, 3, 4] rfl⟩ (by show (i - 1) < i; omega)
    · refine lv_aload_n hx hb dX9_loaded_37 rfl (lv_at hl 2 rfl) ?_
      refine va_get (D := D) (ci := 9) (v := .ref a22) (C := RX9) (T := TX9) (N := 52) hx hb hts (fun _ h => List.mem_cons_of_mem _ (List.mem_append_left _ (List.mem_append_right _ h))) hown hK hP 0 rfl rfl 22 (by decide) (hts (.fieldLink RX9 75 "LitmusHallModel" "now" "[I") (by decide +kernel)) (fun _ h9 => h9) rfl dX9_loaded_38 ?_
      refine lv_iload_n hx hb dX9_loaded_41 rfl (lv_at hl 1 rfl) ?_
      refine lv_iconst (v := 2) hx hb dX9_loaded_42 (by decide) ?_
      refine lv_iadd hx hb dX9_loaded_43 ?_
      refine gx_top (y := nI ((16 + (13 * k)) + 2)) (nI_add (16 + (13 * k)) 2) ?_
      refine lv_iconst (v := 2) hx hb dX9_loaded_44 (by decide) ?_
      refine lv_iload hx hb dX9_loaded_45 (lv_at hl 0 rfl) ?_
      refine lv_imul hx hb dX9_loaded_47 ?_
      refine gx_top (y := nI (2 * (i - 1))) (pk_mul 2 (i - 1)) ?_
      refine lv_iadd hx hb dX9_loaded_48 ?_
      refine gx_top (y := nI (((16 + (13 * k)) + 2) + (2 * (i - 1)))) (nI_add ((16 + (13 * k)) + 2) (2 * (i - 1))) ?_
      refine gy_ild (i := (((16 + (13 * k)) + 2) + (2 * (i - 1)))) hx hb hK hP 1 rfl (by omega) (by omega) dX9_loaded_49 ?_
      refine gx_gen (fun z_5 => ?_)
      exact gx_iret (w' := [(h0, .inr (9, [v0, v1, v2, v3, v4, v5, v6, v7, v8, v9, v10, v11, v12, v13, v14, v15, v16, v17, v18, v19, v20, v21, .ref a22, v23, v24, v25, v26, v27, v28, v29, v30, v31, v32, v33, v34, v35, v36, v37, v38, v39, v40, v41, v42, v43, v44, v45, v46, v47, v48, v49, v50, v51])), (a22, .inl (cI, 58, .inl nw))]) hx hb hr hlk hK hP hD hS (Nat.le_of_ble_eq_true rfl) (Nat.le_of_ble_eq_true rfl) dX9_loaded_50 ⟨z_5, rfl, rfl⟩
def wsP_c_locked9 : List Cond := .code yX9_locked cX9_locked 7 none :: (([.fieldLink RX9 75 "LitmusHallModel" "now" "[I"] ++ wsX90) ++ [])
theorem gW_c_locked9 : wsP_c_locked9.all goodWord = true := by unfold wsP_c_locked9; exact gw_mk (by decide +kernel) rfl
set_option maxHeartbeats 4000000 in
set_option maxRecDepth 100000 in
theorem c_locked9 (l : Launch) (D : va_G) (cI cB cZ : ClassId) (h0 : Nat) (a22 : Nat) (v0 : Value) (v1 : Value) (v2 : Value) (v3 : Value) (v4 : Value) (v5 : Value) (v6 : Value) (v7 : Value) (v8 : Value) (v9 : Value) (v10 : Value) (v11 : Value) (v12 : Value) (v13 : Value) (v14 : Value) (v15 : Value) (v16 : Value) (v17 : Value) (v18 : Value) (v19 : Value) (v20 : Value) (v21 : Value) (v23 : Value) (v24 : Value) (v25 : Value) (v26 : Value) (v27 : Value) (v28 : Value) (v29 : Value) (v30 : Value) (v31 : Value) (v32 : Value) (v33 : Value) (v34 : Value) (v35 : Value) (v36 : Value) (v37 : Value) (v38 : Value) (v39 : Value) (v40 : Value) (v41 : Value) (v42 : Value) (v43 : Value) (v44 : Value) (v45 : Value) (v46 : Value) (v47 : Value) (v48 : Value) (v49 : Value) (v50 : Value) (v51 : Value) (nw : Nat → Int32) (nx : Nat → Nat) (rz : Nat → Nat) (y : Int32) (r : Nat) (x : Int32) (v : Int32) (u : Int32) (hr : 3 ≤ r ∧ r < 12) (hx0 : ¬ y = 4 → ∃ q, q < 4 ∧ x = nI q) (hG : gW9 nw nx rz) : gMv l yX9_locked wsP_c_locked9 ({ frames := 0, cells := 0, slots := 0, locals := 0 }) D cI cB cZ [] [.ref h0, .int y, .int (nI r), .int x, .int v, .int u] [(h0, .inr (9, [v0, v1, v2, v3, v4, v5, v6, v7, v8, v9, v10, v11, v12, v13, v14, v15, v16, v17, v18, v19, v20, v21, .ref a22, v23, v24, v25, v26, v27, v28, v29, v30, v31, v32, v33, v34, v35, v36, v37, v38, v39, v40, v41, v42, v43, v44, v45, v46, v47, v48, v49, v50, v51])), (a22, .inl (cI, 58, .inl nw))] (fun w9 => ∃ nw9 : Nat → Int32, (gW9 nw9 nx rz) ∧ w9 = [(h0, .inr (9, [v0, v1, v2, v3, v4, v5, v6, v7, v8, v9, v10, v11, v12, v13, v14, v15, v16, v17, v18, v19, v20, v21, .ref a22, v23, v24, v25, v26, v27, v28, v29, v30, v31, v32, v33, v34, v35, v36, v37, v38, v39, v40, v41, v42, v43, v44, v45, v46, v47, v48, v49, v50, v51])), (a22, .inl (cI, 58, .inl nw9))]) := by
  refine gMv.of (cc := cX9_locked) (maxL := 7) (ret := none) (by decide) rfl (Nat.le_of_ble_eq_true rfl) (fun p e s m below meth c A ls hx hb hr hlk hml hts hown hin hA hP hK hD hS hN hl => ?_)
  have hown : s.vm.findClass RX9 = some m.cls := hown
  have hl : lv_has ls 7 [(0, .ref h0), (1, .int y), (2, .int (nI r)), (3, .int x), (4, .int v), (5, .int u)] := hl
  refine lv_iload_n hx hb dX9_locked_0 rfl (lv_at hl 1 rfl) ?_
  refine lv_iconst (v := 4) hx hb dX9_locked_1 (by decide) ?_
  refine lv_icmp_ne (tgt := 6) hx hb dX9_locked_2 (by decide) (fun c_1 => ?_) (fun c_1 => ?_)
  · obtain ⟨q, hq, rfl⟩ := hx0 c_1
    have hl : lv_has ls 7 [(0, .ref h0), (1, .int y), (2, .int (nI r)), (3, .int (nI q)), (4, .int v), (5, .int u)] := hl
    refine lv_aload_n hx hb dX9_locked_6 rfl (lv_at hl 0 rfl) ?_
    refine va_get (D := D) (ci := 9) (v := .ref a22) (C := RX9) (T := TX9) (N := 52) hx hb hts (fun _ h => List.mem_cons_of_mem _ (List.mem_append_left _ (List.mem_append_right _ h))) hown hK hP 0 rfl rfl 22 (by decide) (hts (.fieldLink RX9 75 "LitmusHallModel" "now" "[I") (by decide +kernel)) (fun _ h9 => h9) rfl dX9_locked_7 ?_
    refine lv_bipush (v := 12) hx hb dX9_locked_10 (by decide) ?_
    refine lv_iload_n hx hb dX9_locked_12 rfl (lv_at hl 3 rfl) ?_
    refine lv_iadd hx hb dX9_locked_13 ?_
    refine gx_top (y := nI (12 + q)) (nI_add 12 q) ?_
    refine gy_ild (i := (12 + q)) hx hb hK hP 1 rfl (by omega) (by omega) dX9_locked_14 ?_
    refine gx_gen (fun z_2 => ?_)
    refine lv_istore (lv' := [(6, .int z_2), (0, .ref h0), (1, .int y), (2, .int (nI r)), (3, .int (nI q)), (4, .int v), (5, .int u)]) hx hb dX9_locked_15 hl (by decide) rfl (fun ls hl => ?_)
    refine lv_iload_n hx hb dX9_locked_17 rfl (lv_at hl 2 rfl) ?_
    refine lv_iconst (v := 5) hx hb dX9_locked_18 (by decide) ?_
    refine lv_icmp_ne (tgt := 40) hx hb dX9_locked_19 (by decide) (fun c_3 => ?_) (fun c_3 => ?_)
    · refine lv_iload_n hx hb dX9_locked_40 rfl (lv_at hl 2 rfl) ?_
      refine lv_bipush (v := 6) hx hb dX9_locked_41 (by decide) ?_
      refine lv_icmp_ne (tgt := 63) hx hb dX9_locked_43 (by decide) (fun c_4 => ?_) (fun c_4 => ?_)
      · refine lv_aload_n hx hb dX9_locked_63 rfl (lv_at hl 1 rfl) ?_
        refine va_get (D := D) (ci := 9) (v := .ref a22) (C := RX9) (T := TX9) (N := 52) hx hb hts (fun _ h => List.mem_cons_of_mem _ (List.mem_append_left _ (List.mem_append_right _ h))) hown hK hP 0 rfl rfl 22 (by decide) (hts (.fieldLink RX9 75 "LitmusHallModel" "now" "[I") (by decide +kernel)) (fun _ h9 => h9) rfl dX9_locked_64 ?_
        refine lv_bipush (v := 12) hx hb dX9_locked_67 (by decide) ?_
        refine lv_iload_n hx hb dX9_locked_69 rfl (lv_at hl 4 rfl) ?_
        refine lv_iadd hx hb dX9_locked_70 ?_
        refine gx_top (y := nI (12 + q)) (nI_add 12 q) ?_
        refine lv_iload hx hb dX9_locked_71 (lv_at hl 0 rfl) ?_
        refine lv_iload hx hb dX9_locked_73 (lv_at hl 5 rfl) ?_
        refine lv_icmp_ne (tgt := 83) hx hb dX9_locked_75 (by decide) (fun c_5 => ?_) (fun c_5 => ?_)
        · refine lv_iload hx hb dX9_locked_83 (lv_at hl 0 rfl) ?_
          refine gy_ist (i := (12 + q)) hx hb hK hP hD hS 1 rfl (by omega) (by omega) dX9_locked_85 (fun H locs hP hD hS => ?_)
          have hP : va_P D vwCl [(h0, .inr (9, [v0, v1, v2, v3, v4, v5, v6, v7, v8, v9, v10, v11, v12, v13, v14, v15, v16, v17, v18, v19, v20, v21, .ref a22, v23, v24, v25, v26, v27, v28, v29, v30, v31, v32, v33, v34, v35, v36, v37, v38, v39, v40, v41, v42, v43, v44, v45, v46, v47, v48, v49, v50, v51])), (a22, .inl (cI, 58, .inl (upd nw (12 + q) z_2)))] H := hP
          have hD : va_D A [(h0, .inr (9, [v0, v1, v2, v3, v4, v5, v6, v7, v8, v9, v10, v11, v12, v13, v14, v15, v16, v17, v18, v19, v20, v21, .ref a22, v23, v24, v25, v26, v27, v28, v29, v30, v31, v32, v33, v34, v35, v36, v37, v38, v39, v40, v41, v42, v43, v44, v45, v46, v47, v48, v49, v50, v51])), (a22, .inl (cI, 58, .inl (upd nw (12 + q) z_2)))] := hD
          refine lv_aload_n hx hb dX9_locked_86 rfl (lv_at hl 1 rfl) ?_
          refine va_get (D := D) (ci := 9) (v := .ref a22) (C := RX9) (T := TX9) (N := 52) hx hb hts (fun _ h => List.mem_cons_of_mem _ (List.mem_append_left _ (List.mem_append_right _ h))) hown hK hP 0 rfl rfl 22 (by decide) (hts (.fieldLink RX9 75 "LitmusHallModel" "now" "[I") (by decide +kernel)) (fun _ h9 => h9) rfl dX9_locked_87 ?_
          refine lv_iload_n hx hb dX9_locked_90 rfl (lv_at hl 3 rfl) ?_
          refine lv_iload hx hb dX9_locked_91 (lv_at hl 0 rfl) ?_
          refine gy_ist (i := r) hx hb hK hP hD hS 1 rfl (by omega) (by omega) dX9_locked_93 (fun H locs hP hD hS => ?_)
          have hP : va_P D vwCl [(h0, .inr (9, [v0, v1, v2, v3, v4, v5, v6, v7, v8, v9, v10, v11, v12, v13, v14, v15, v16, v17, v18, v19, v20, v21, .ref a22, v23, v24, v25, v26, v27, v28, v29, v30, v31, v32, v33, v34, v35, v36, v37, v38, v39, v40, v41, v42, v43, v44, v45, v46, v47, v48, v49, v50, v51])), (a22, .inl (cI, 58, .inl (upd (upd nw (12 + q) z_2) r z_2)))] H := hP
          have hD : va_D A [(h0, .inr (9, [v0, v1, v2, v3, v4, v5, v6, v7, v8, v9, v10, v11, v12, v13, v14, v15, v16, v17, v18, v19, v20, v21, .ref a22, v23, v24, v25, v26, v27, v28, v29, v30, v31, v32, v33, v34, v35, v36, v37, v38, v39, v40, v41, v42, v43, v44, v45, v46, v47, v48, v49, v50, v51])), (a22, .inl (cI, 58, .inl (upd (upd nw (12 + q) z_2) r z_2)))] := hD
          exact gx_vret (w' := [(h0, .inr (9, [v0, v1, v2, v3, v4, v5, v6, v7, v8, v9, v10, v11, v12, v13, v14, v15, v16, v17, v18, v19, v20, v21, .ref a22, v23, v24, v25, v26, v27, v28, v29, v30, v31, v32, v33, v34, v35, v36, v37, v38, v39, v40, v41, v42, v43, v44, v45, v46, v47, v48, v49, v50, v51])), (a22, .inl (cI, 58, .inl (upd (upd nw (12 + q) z_2) r z_2)))]) hx hb hr hlk hK hP hD hS (Nat.le_of_ble_eq_true rfl) (Nat.le_of_ble_eq_true rfl) dX9_locked_94 ⟨(upd (upd nw (12 + q) z_2) r z_2), (gW9_out (gW9_out hG (by omega)) (by omega)), rfl⟩
        · refine lv_iload hx hb dX9_locked_78 (lv_at hl 6 rfl) ?_
          refine lv_goto (tgt := 85) hx hb dX9_locked_80 (by decide) ?_
          refine gy_ist (i := (12 + q)) hx hb hK hP hD hS 1 rfl (by omega) (by omega) dX9_locked_85 (fun H locs hP hD hS => ?_)
          have hP : va_P D vwCl [(h0, .inr (9, [v0, v1, v2, v3, v4, v5, v6, v7, v8, v9, v10, v11, v12, v13, v14, v15, v16, v17, v18, v19, v20, v21, .ref a22, v23, v24, v25, v26, v27, v28, v29, v30, v31, v32, v33, v34, v35, v36, v37, v38, v39, v40, v41, v42, v43, v44, v45, v46, v47, v48, v49, v50, v51])), (a22, .inl (cI, 58, .inl (upd nw (12 + q) u)))] H := hP
          have hD : va_D A [(h0, .inr (9, [v0, v1, v2, v3, v4, v5, v6, v7, v8, v9, v10, v11, v12, v13, v14, v15, v16, v17, v18, v19, v20, v21, .ref a22, v23, v24, v25, v26, v27, v28, v29, v30, v31, v32, v33, v34, v35, v36, v37, v38, v39, v40, v41, v42, v43, v44, v45, v46, v47, v48, v49, v50, v51])), (a22, .inl (cI, 58, .inl (upd nw (12 + q) u)))] := hD
          refine lv_aload_n hx hb dX9_locked_86 rfl (lv_at hl 1 rfl) ?_
          refine va_get (D := D) (ci := 9) (v := .ref a22) (C := RX9) (T := TX9) (N := 52) hx hb hts (fun _ h => List.mem_cons_of_mem _ (List.mem_append_left _ (List.mem_append_right _ h))) hown hK hP 0 rfl rfl 22 (by decide) (hts (.fieldLink RX9 75 "LitmusHallModel" "now" "[I") (by decide +kernel)) (fun _ h9 => h9) rfl dX9_locked_87 ?_
          refine lv_iload_n hx hb dX9_locked_90 rfl (lv_at hl 3 rfl) ?_
          refine lv_iload hx hb dX9_locked_91 (lv_at hl 0 rfl) ?_
          refine gy_ist (i := r) hx hb hK hP hD hS 1 rfl (by omega) (by omega) dX9_locked_93 (fun H locs hP hD hS => ?_)
          have hP : va_P D vwCl [(h0, .inr (9, [v0, v1, v2, v3, v4, v5, v6, v7, v8, v9, v10, v11, v12, v13, v14, v15, v16, v17, v18, v19, v20, v21, .ref a22, v23, v24, v25, v26, v27, v28, v29, v30, v31, v32, v33, v34, v35, v36, v37, v38, v39, v40, v41, v42, v43, v44, v45, v46, v47, v48, v49, v50, v51])), (a22, .inl (cI, 58, .inl (upd (upd nw (12 + q) u) r z_2)))] H := hP
          have hD : va_D A [(h0, .inr (9, [v0, v1, v2, v3, v4, v5, v6, v7, v8, v9, v10, v11, v12, v13, v14, v15, v16, v17, v18, v19, v20, v21, .ref a22, v23, v24, v25, v26, v27, v28, v29, v30, v31, v32, v33, v34, v35, v36, v37, v38, v39, v40, v41, v42, v43, v44, v45, v46, v47, v48, v49, v50, v51])), (a22, .inl (cI, 58, .inl (upd (upd nw (12 + q) u) r z_2)))] := hD
          exact gx_vret (w' := [(h0, .inr (9, [v0, v1, v2, v3, v4, v5, v6, v7, v8, v9, v10, v11, v12, v13, v14, v15, v16, v17, v18, v19, v20, v21, .ref a22, v23, v24, v25, v26, v27, v28, v29, v30, v31, v32, v33, v34, v35, v36, v37, v38, v39, v40, v41, v42, v43, v44, v45, v46, v47, v48, v49, v50, v51])), (a22, .inl (cI, 58, .inl (upd (upd nw (12 + q) u) r z_2)))]) hx hb hr hlk hK hP hD hS (Nat.le_of_ble_eq_true rfl) (Nat.le_of_ble_eq_true rfl) dX9_locked_94 ⟨(upd (upd nw (12 + q) u) r z_2), (gW9_out (gW9_out hG (by omega)) (by omega)), rfl⟩
      · refine lv_aload_n hx hb dX9_locked_46 rfl (lv_at hl 1 rfl) ?_
        refine va_get (D := D) (ci := 9) (v := .ref a22) (C := RX9) (T := TX9) (N := 52) hx hb hts (fun _ h => List.mem_cons_of_mem _ (List.mem_append_left _ (List.mem_append_right _ h))) hown hK hP 0 rfl rfl 22 (by decide) (hts (.fieldLink RX9 75 "LitmusHallModel" "now" "[I") (by decide +kernel)) (fun _ h9 => h9) rfl dX9_locked_47 ?_
        refine lv_bipush (v := 12) hx hb dX9_locked_50 (by decide) ?_
        refine lv_iload_n hx hb dX9_locked_52 rfl (lv_at hl 4 rfl) ?_
        refine lv_iadd hx hb dX9_locked_53 ?_
        refine gx_top (y := nI (12 + q)) (nI_add 12 q) ?_
        refine lv_iload hx hb dX9_locked_54 (lv_at hl 0 rfl) ?_
        refine lv_iload hx hb dX9_locked_56 (lv_at hl 5 rfl) ?_
        refine lv_iadd hx hb dX9_locked_58 ?_
        refine gx_gen (fun z_6 => ?_)
        refine gy_ist (i := (12 + q)) hx hb hK hP hD hS 1 rfl (by omega) (by omega) dX9_locked_59 (fun H locs hP hD hS => ?_)
        have hP : va_P D vwCl [(h0, .inr (9, [v0, v1, v2, v3, v4, v5, v6, v7, v8, v9, v10, v11, v12, v13, v14, v15, v16, v17, v18, v19, v20, v21, .ref a22, v23, v24, v25, v26, v27, v28, v29, v30, v31, v32, v33, v34, v35, v36, v37, v38, v39, v40, v41, v42, v43, v44, v45, v46, v47, v48, v49, v50, v51])), (a22, .inl (cI, 58, .inl (upd nw (12 + q) z_6)))] H := hP
        have hD : va_D A [(h0, .inr (9, [v0, v1, v2, v3, v4, v5, v6, v7, v8, v9, v10, v11, v12, v13, v14, v15, v16, v17, v18, v19, v20, v21, .ref a22, v23, v24, v25, v26, v27, v28, v29, v30, v31, v32, v33, v34, v35, v36, v37, v38, v39, v40, v41, v42, v43, v44, v45, v46, v47, v48, v49, v50, v51])), (a22, .inl (cI, 58, .inl (upd nw (12 + q) z_6)))] := hD
        refine lv_goto (tgt := 86) hx hb dX9_locked_60 (by decide) ?_
        refine lv_aload_n hx hb dX9_locked_86 rfl (lv_at hl 1 rfl) ?_
        refine va_get (D := D) (ci := 9) (v := .ref a22) (C := RX9) (T := TX9) (N := 52) hx hb hts (fun _ h => List.mem_cons_of_mem _ (List.mem_append_left _ (List.mem_append_right _ h))) hown hK hP 0 rfl rfl 22 (by decide) (hts (.fieldLink RX9 75 "LitmusHallModel" "now" "[I") (by decide +kernel)) (fun _ h9 => h9) rfl dX9_locked_87 ?_
        refine lv_iload_n hx hb dX9_locked_90 rfl (lv_at hl 3 rfl) ?_
        refine lv_iload hx hb dX9_locked_91 (lv_at hl 0 rfl) ?_
        refine gy_ist (i := r) hx hb hK hP hD hS 1 rfl (by omega) (by omega) dX9_locked_93 (fun H locs hP hD hS => ?_)
        have hP : va_P D vwCl [(h0, .inr (9, [v0, v1, v2, v3, v4, v5, v6, v7, v8, v9, v10, v11, v12, v13, v14, v15, v16, v17, v18, v19, v20, v21, .ref a22, v23, v24, v25, v26, v27, v28, v29, v30, v31, v32, v33, v34, v35, v36, v37, v38, v39, v40, v41, v42, v43, v44, v45, v46, v47, v48, v49, v50, v51])), (a22, .inl (cI, 58, .inl (upd (upd nw (12 + q) z_6) r z_2)))] H := hP
        have hD : va_D A [(h0, .inr (9, [v0, v1, v2, v3, v4, v5, v6, v7, v8, v9, v10, v11, v12, v13, v14, v15, v16, v17, v18, v19, v20, v21, .ref a22, v23, v24, v25, v26, v27, v28, v29, v30, v31, v32, v33, v34, v35, v36, v37, v38, v39, v40, v41, v42, v43, v44, v45, v46, v47, v48, v49, v50, v51])), (a22, .inl (cI, 58, .inl (upd (upd nw (12 + q) z_6) r z_2)))] := hD
        exact gx_vret (w' := [(h0, .inr (9, [v0, v1, v2, v3, v4, v5, v6, v7, v8, v9, v10, v11, v12, v13, v14, v15, v16, v17, v18, v19, v20, v21, .ref a22, v23, v24, v25, v26, v27, v28, v29, v30, v31, v32, v33, v34, v35, v36, v37, v38, v39, v40, v41, v42, v43, v44, v45, v46, v47, v48, v49, v50, v51])), (a22, .inl (cI, 58, .inl (upd (upd nw (12 + q) z_6) r z_2)))]) hx hb hr hlk hK hP hD hS (Nat.le_of_ble_eq_true rfl) (Nat.le_of_ble_eq_true rfl) dX9_locked_94 ⟨(upd (upd nw (12 + q) z_6) r z_2), (gW9_out (gW9_out hG (by omega)) (by omega)), rfl⟩
    · refine lv_aload_n hx hb dX9_locked_22 rfl (lv_at hl 1 rfl) ?_
      refine va_get (D := D) (ci := 9) (v := .ref a22) (C := RX9) (T := TX9) (N := 52) hx hb hts (fun _ h => List.mem_cons_of_mem _ (List.mem_append_left _ (List.mem_append_right _ h))) hown hK hP 0 rfl rfl 22 (by decide) (hts (.fieldLink RX9 75 "LitmusHallModel" "now" "[I") (by decide +kernel)) (fun _ h9 => h9) rfl dX9_locked_23 ?_
      refine lv_bipush (v := 12) hx hb dX9_locked_26 (by decide) ?_
      refine lv_iload_n hx hb dX9_locked_28 rfl (lv_at hl 4 rfl) ?_
      refine lv_iadd hx hb dX9_locked_29 ?_
      refine gx_top (y := nI (12 + q)) (nI_add 12 q) ?_
      refine lv_aload_n hx hb dX9_locked_30 rfl (lv_at hl 1 rfl) ?_
      refine va_get (D := D) (ci := 9) (v := .ref a22) (C := RX9) (T := TX9) (N := 52) hx hb hts (fun _ h => List.mem_cons_of_mem _ (List.mem_append_left _ (List.mem_append_right _ h))) hown hK hP 0 rfl rfl 22 (by decide) (hts (.fieldLink RX9 75 "LitmusHallModel" "now" "[I") (by decide +kernel)) (fun _ h9 => h9) rfl dX9_locked_31 ?_
      refine lv_iload_n hx hb dX9_locked_34 rfl (lv_at hl 3 rfl) ?_
      refine gy_ild (i := r) hx hb hK hP 1 rfl (by omega) (by omega) dX9_locked_35 ?_
      refine gx_gen (fun z_7 => ?_)
      refine gy_ist (i := (12 + q)) hx hb hK hP hD hS 1 rfl (by omega) (by omega) dX9_locked_36 (fun H locs hP hD hS => ?_)
      have hP : va_P D vwCl [(h0, .inr (9, [v0, v1, v2, v3, v4, v5, v6, v7, v8, v9, v10, v11, v12, v13, v14, v15, v16, v17, v18, v19, v20, v21, .ref a22, v23, v24, v25, v26, v27, v28, v29, v30, v31, v32, v33, v34, v35, v36, v37, v38, v39, v40, v41, v42, v43, v44, v45, v46, v47, v48, v49, v50, v51])), (a22, .inl (cI, 58, .inl (upd nw (12 + q) z_7)))] H := hP
      have hD : va_D A [(h0, .inr (9, [v0, v1, v2, v3, v4, v5, v6, v7, v8, v9, v10, v11, v12, v13, v14, v15, v16, v17, v18, v19, v20, v21, .ref a22, v23, v24, v25, v26, v27, v28, v29, v30, v31, v32, v33, v34, v35, v36, v37, v38, v39, v40, v41, v42, v43, v44, v45, v46, v47, v48, v49, v50, v51])), (a22, .inl (cI, 58, .inl (upd nw (12 + q) z_7)))] := hD
      refine lv_goto (tgt := 86) hx hb dX9_locked_37 (by decide) ?_
      refine lv_aload_n hx hb dX9_locked_86 rfl (lv_at hl 1 rfl) ?_
      refine va_get (D := D) (ci := 9) (v := .ref a22) (C := RX9) (T := TX9) (N := 52) hx hb hts (fun _ h => List.mem_cons_of_mem _ (List.mem_append_left _ (List.mem_append_right _ h))) hown hK hP 0 rfl rfl 22 (by decide) (hts (.fieldLink RX9 75 "LitmusHallModel" "now" "[I") (by decide +kernel)) (fun _ h9 => h9) rfl dX9_locked_87 ?_
      refine lv_iload_n hx hb dX9_locked_90 rfl (lv_at hl 3 rfl) ?_
      refine lv_iload hx hb dX9_locked_91 (lv_at hl 0 rfl) ?_
      refine gy_ist (i := r) hx hb hK hP hD hS 1 rfl (by omega) (by omega) dX9_locked_93 (fun H locs hP hD hS => ?_)
      have hP : va_P D vwCl [(h0, .inr (9, [v0, v1, v2, v3, v4, v5, v6, v7, v8, v9, v10, v11, v12, v13, v14, v15, v16, v17, v18, v19, v20, v21, .ref a22, v23, v24, v25, v26, v27, v28, v29, v30, v31, v32, v33, v34, v35, v36, v37, v38, v39, v40, v41, v42, v43, v44, v45, v46, v47, v48, v49, v50, v51])), (a22, .inl (cI, 58, .inl (upd (upd nw (12 + q) z_7) r z_2)))] H := hP
      have hD : va_D A [(h0, .inr (9, [v0, v1, v2, v3, v4, v5, v6, v7, v8, v9, v10, v11, v12, v13, v14, v15, v16, v17, v18, v19, v20, v21, .ref a22, v23, v24, v25, v26, v27, v28, v29, v30, v31, v32, v33, v34, v35, v36, v37, v38, v39, v40, v41, v42, v43, v44, v45, v46, v47, v48, v49, v50, v51])), (a22, .inl (cI, 58, .inl (upd (upd nw (12 + q) z_7) r z_2)))] := hD
      exact gx_vret (w' := [(h0, .inr (9, [v0, v1, v2, v3, v4, v5, v6, v7, v8, v9, v10, v11, v12, v13, v14, v15, v16, v17, v18, v19, v20, v21, .ref a22, v23, v24, v25, v26, v27, v28, v29, v30, v31, v32, v33, v34, v35, v36, v37, v38, v39, v40, v41, v42, v43, v44, v45, v46, v47, v48, v49, v50, v51])), (a22, .inl (cI, 58, .inl (upd (upd nw (12 + q) z_7) r z_2)))]) hx hb hr hlk hK hP hD hS (Nat.le_of_ble_eq_true rfl) (Nat.le_of_ble_eq_true rfl) dX9_locked_94 ⟨(upd (upd nw (12 + q) z_7) r z_2), (gW9_out (gW9_out hG (by omega)) (by omega)), rfl⟩
  · exact gx_vret (w' := [(h0, .inr (9, [v0, v1, v2, v3, v4, v5, v6, v7, v8, v9, v10, v11, v12, v13, v14, v15, v16, v17, v18, v19, v20, v21, .ref a22, v23, v24, v25, v26, v27, v28, v29, v30, v31, v32, v33, v34, v35, v36, v37, v38, v39, v40, v41, v42, v43, v44, v45, v46, v47, v48, v49, v50, v51])), (a22, .inl (cI, 58, .inl nw))]) hx hb hr hlk hK hP hD hS (Nat.le_of_ble_eq_true rfl) (Nat.le_of_ble_eq_true rfl) dX9_locked_5 ⟨nw, hG, rfl⟩
def wsP_c_put9 : List Cond := .code yX9_put cX9_put 6 none :: (([.methodLink RX9 267 yX9_rowAt, .static yX9_rowAt, .initialized yX9_rowAt.cls, .fieldLink RX9 75 "LitmusHallModel" "now" "[I"] ++ wsX90) ++ (wsP_c_rowAt9 ++ []))
theorem gW_c_put9 : wsP_c_put9.all goodWord = true := by unfold wsP_c_put9; exact gw_mk (by decide +kernel) (gw_app gW_c_rowAt9 rfl)
set_option maxRecDepth 20000 in
theorem gP_c_put9__c_rowAt9 : GoodIn wsP_c_put9 (va_wsS RX9 267 yX9_rowAt wsP_c_rowAt9) := gw_in (pre := [.methodLink RX9 267 yX9_rowAt, .static yX9_rowAt, .initialized yX9_rowAt.cls]) (by decide +kernel) (fun _ h => List.mem_cons_of_mem _ (List.mem_append_right _ (List.mem_append_left _ h))) gW_c_rowAt9
set_option maxHeartbeats 4000000 in
set_option maxRecDepth 100000 in
theorem c_put9 (l : Launch) (D : va_G) (cI cB cZ : ClassId) (h0 : Nat) (a22 : Nat) (v0 : Value) (v1 : Value) (v2 : Value) (v3 : Value) (v4 : Value) (v5 : Value) (v6 : Value) (v7 : Value) (v8 : Value) (v9 : Value) (v10 : Value) (v11 : Value) (v12 : Value) (v13 : Value) (v14 : Value) (v15 : Value) (v16 : Value) (v17 : Value) (v18 : Value) (v19 : Value) (v20 : Value) (v21 : Value) (v23 : Value) (v24 : Value) (v25 : Value) (v26 : Value) (v27 : Value) (v28 : Value) (v29 : Value) (v30 : Value) (v31 : Value) (v32 : Value) (v33 : Value) (v34 : Value) (v35 : Value) (v36 : Value) (v37 : Value) (v38 : Value) (v39 : Value) (v40 : Value) (v41 : Value) (v42 : Value) (v43 : Value) (v44 : Value) (v45 : Value) (v46 : Value) (v47 : Value) (v48 : Value) (v49 : Value) (v50 : Value) (v51 : Value) (nw : Nat → Int32) (nx : Nat → Nat) (rz : Nat → Nat) (k : Nat) (x : Nat) (v : Int32) (mode : Int32) (hk : k < 3) (hx0 : x < 4) (hz : ¬ mode = 0 → rz k < 6) (hG : gW9 nw nx rz) : gMv l yX9_put wsP_c_put9 ({ frames := 1, cells := 0, slots := 0, locals := 20 }) D cI cB cZ [] [.ref h0, .int (nI k), .int (nI x), .int v, .int mode] [(h0, .inr (9, [v0, v1, v2, v3, v4, v5, v6, v7, v8, v9, v10, v11, v12, v13, v14, v15, v16, v17, v18, v19, v20, v21, .ref a22, v23, v24, v25, v26, v27, v28, v29, v30, v31, v32, v33, v34, v35, v36, v37, v38, v39, v40, v41, v42, v43, v44, v45, v46, v47, v48, v49, v50, v51])), (a22, .inl (cI, 58, .inl nw))] (fun w9 => ∃ nw9 : Nat → Int32, ∃ rz9 : Nat → Nat, (gW9 nw9 nx rz9) ∧ ((mode = 0 ∧ rz9 = rz) ∨ (¬ mode = 0 ∧ rz9 = updN rz k (rz k + 1))) ∧ w9 = [(h0, .inr (9, [v0, v1, v2, v3, v4, v5, v6, v7, v8, v9, v10, v11, v12, v13, v14, v15, v16, v17, v18, v19, v20, v21, .ref a22, v23, v24, v25, v26, v27, v28, v29, v30, v31, v32, v33, v34, v35, v36, v37, v38, v39, v40, v41, v42, v43, v44, v45, v46, v47, v48, v49, v50, v51])), (a22, .inl (cI, 58, .inl nw9))]) := by
  refine gMv.of (cc := cX9_put) (maxL := 6) (ret := none) (by decide) rfl (Nat.le_of_ble_eq_true rfl) (fun p e s m below meth c A ls hx hb hr hlk hml hts hown hin hA hP hK hD hS hN hl => ?_)
  have hown : s.vm.findClass RX9 = some m.cls := hown
  have hl : lv_has ls 6 [(0, .ref h0), (1, .int (nI k)), (2, .int (nI x)), (3, .int v), (4, .int mode)] := hl
  obtain ⟨e1, e2, e3, e4, e5⟩ := hG (k) (by omega)
  refine lv_iload hx hb dX9_put_0 (lv_at hl 4 rfl) ?_
  refine lv_if_ne (tgt := 16) hx hb dX9_put_2 (by decide) (fun c_1 => ?_) (fun c_1 => ?_)
  · have hzz := hz c_1
    refine lv_iload_n hx hb dX9_put_16 rfl (lv_at hl 1 rfl) ?_
    refine gx_goi (wc := []) (wr := [(h0, .inr (9, [v0, v1, v2, v3, v4, v5, v6, v7, v8, v9, v10, v11, v12, v13, v14, v15, v16, v17, v18, v19, v20, v21, .ref a22, v23, v24, v25, v26, v27, v28, v29, v30, v31, v32, v33, v34, v35, v36, v37, v38, v39, v40, v41, v42, v43, v44, v45, v46, v47, v48, v49, v50, v51])), (a22, .inl (cI, 58, .inl nw))]) (va_runS (As := [.int (nI k)]) (rest := []) ⟨hx, hb, hml, hown, hts⟩ (c_rowAt9 l D cI cB cZ k _) (va_cwS 1 hts gP_c_put9__c_rowAt9 rfl rfl rfl (by decide +kernel) ⟨Nat.le_of_ble_eq_true rfl, Nat.le_of_ble_eq_true rfl⟩) (gx_preS hK gN.nil hP hD [] rfl rfl) rfl rfl hl.1 rfl (lv_room (Nat.le_of_ble_eq_true rfl)) dX9_put_17 ⟨Nat.le_of_ble_eq_true rfl, Nat.le_of_ble_eq_true rfl⟩) hP hD hS hA [] [0, 1] rfl rfl rfl (by decide) (fun r1 w1 H locs hp hP hD hS => ?_)
    obtain ⟨h9, rfl⟩ := hp
    have h9 := h9.symm
    subst h9
    refine lv_istore (lv' := [(5, .int (nI (16 + (13 * k)))), (0, .ref h0), (1, .int (nI k)), (2, .int (nI x)), (3, .int v), (4, .int mode)]) hx hb dX9_put_20 hl (by decide) rfl (fun ls hl => ?_)
    refine lv_aload_n hx hb dX9_put_22 rfl (lv_at hl 1 rfl) ?_
    refine va_get (D := D) (ci := 9) (v := .ref a22) (C := RX9) (T := TX9) (N := 52) hx hb hts (fun _ h => List.mem_cons_of_mem _ (List.mem_append_left _ (List.mem_append_right _ h))) hown hK hP 0 rfl rfl 22 (by decide) (hts (.fieldLink RX9 75 "LitmusHallModel" "now" "[I") (by decide +kernel)) (fun _ h9 => h9) rfl dX9_put_23 ?_
    refine lv_iload hx hb dX9_put_26 (lv_at hl 0 rfl) ?_
    refine lv_iconst (v := 1) hx hb dX9_put_28 (by decide) ?_
    refine lv_iadd hx hb dX9_put_29 ?_
    refine gx_top (y := nI ((16 + (13 * k)) + 1)) (nI_add (16 + (13 * k)) 1) ?_
    refine lv_iconst (v := 2) hx hb dX9_put_30 (by decide) ?_
    refine lv_aload_n hx hb dX9_put_31 rfl (lv_at hl 1 rfl) ?_
    refine va_get (D := D) (ci := 9) (v := .ref a22) (C := RX9) (T := TX9) (N := 52) hx hb hts (fun _ h => List.mem_cons_of_mem _ (List.mem_append_left _ (List.mem_append_right _ h))) hown hK hP 0 rfl rfl 22 (by decide) (hts (.fieldLink RX9 75 "LitmusHallModel" "now" "[I") (by decide +kernel)) (fun _ h9 => h9) rfl dX9_put_32 ?_
    refine lv_iload hx hb dX9_put_35 (lv_at hl 0 rfl) ?_
    refine gy_ild (i := (16 + (13 * k))) hx hb hK hP 1 rfl (by omega) (by omega) dX9_put_37 ?_
    refine gx_top (y := nI (rz k)) e2 ?_
    refine lv_imul hx hb dX9_put_38 ?_
    refine gx_top (y := nI (2 * (rz k))) (pk_mul 2 (rz k)) ?_
    refine lv_iadd hx hb dX9_put_39 ?_
    refine gx_top (y := nI (((16 + (13 * k)) + 1) + (2 * (rz k)))) (nI_add ((16 + (13 * k)) + 1) (2 * (rz k))) ?_
    refine lv_iload_n hx hb dX9_put_40 rfl (lv_at hl 3 rfl) ?_
    refine gy_ist (i := (((16 + (13 * k)) + 1) + (2 * (rz k)))) hx hb hK hP hD hS 1 rfl (by omega) (by omega) dX9_put_41 (fun H locs hP hD hS => ?_)
    have hP : va_P D vwCl [(h0, .inr (9, [v0, v1, v2, v3, v4, v5, v6, v7, v8, v9, v10, v11, v12, v13, v14, v15, v16, v17, v18, v19, v20, v21, .ref a22, v23, v24, v25, v26, v27, v28, v29, v30, v31, v32, v33, v34, v35, v36, v37, v38, v39, v40, v41, v42, v43, v44, v45, v46, v47, v48, v49, v50, v51])), (a22, .inl (cI, 58, .inl (upd nw (((16 + (13 * k)) + 1) + (2 * (rz k))) (nI x))))] H := hP
    have hD : va_D A [(h0, .inr (9, [v0, v1, v2, v3, v4, v5, v6, v7, v8, v9, v10, v11, v12, v13, v14, v15, v16, v17, v18, v19, v20, v21, .ref a22, v23, v24, v25, v26, v27, v28, v29, v30, v31, v32, v33, v34, v35, v36, v37, v38, v39, v40, v41, v42, v43, v44, v45, v46, v47, v48, v49, v50, v51])), (a22, .inl (cI, 58, .inl (upd nw (((16 + (13 * k)) + 1) + (2 * (rz k))) (nI x))))] := hD
    refine lv_aload_n hx hb dX9_put_42 rfl (lv_at hl 1 rfl) ?_
    refine va_get (D := D) (ci := 9) (v := .ref a22) (C := RX9) (T := TX9) (N := 52) hx hb hts (fun _ h => List.mem_cons_of_mem _ (List.mem_append_left _ (List.mem_append_right _ h))) hown hK hP 0 rfl rfl 22 (by decide) (hts (.fieldLink RX9 75 "LitmusHallModel" "now" "[I") (by decide +kernel)) (fun _ h9 => h9) rfl dX9_put_43 ?_
    refine lv_iload hx hb dX9_put_46 (lv_at hl 0 rfl) ?_
    refine lv_iconst (v := 2) hx hb dX9_put_48 (by decide) ?_
    refine lv_iadd hx hb dX9_put_49 ?_
    refine gx_top (y := nI ((16 + (13 * k)) + 2)) (nI_add (16 + (13 * k)) 2) ?_
    refine lv_iconst (v := 2) hx hb dX9_put_50 (by decide) ?_
    refine lv_aload_n hx hb dX9_put_51 rfl (lv_at hl 1 rfl) ?_
    refine va_get (D := D) (ci := 9) (v := .ref a22) (C := RX9) (T := TX9) (N := 52) hx hb hts (fun _ h => List.mem_cons_of_mem _ (List.mem_append_left _ (List.mem_append_right _ h))) hown hK hP 0 rfl rfl 22 (by decide) (hts (.fieldLink RX9 75 "LitmusHallModel" "now" "[I") (by decide +kernel)) (fun _ h9 => h9) rfl dX9_put_52 ?_
    refine lv_iload hx hb dX9_put_55 (lv_at hl 0 rfl) ?_
    refine gy_ild (i := (16 + (13 * k))) hx hb hK hP 1 rfl (by omega) (by omega) dX9_put_57 ?_
    refine gx_top (y := nI (rz k)) (by rw [pk_un (by omega)]; exact e2) ?_
    refine lv_imul hx hb dX9_put_58 ?_
    refine gx_top (y := nI (2 * (rz k))) (pk_mul 2 (rz k)) ?_
    refine lv_iadd hx hb dX9_put_59 ?_
    refine gx_top (y := nI (((16 + (13 * k)) + 2) + (2 * (rz k)))) (nI_add ((16 + (13 * k)) + 2) (2 * (rz k))) ?_
    refine lv_iload_n hx hb dX9_put_60 rfl (lv_at hl 4 rfl) ?_
    refine gy_ist (i := (((16 + (13 * k)) + 2) + (2 * (rz k)))) hx hb hK hP hD hS 1 rfl (by omega) (by omega) dX9_put_61 (fun H locs hP hD hS => ?_)
    have hP : va_P D vwCl [(h0, .inr (9, [v0, v1, v2, v3, v4, v5, v6, v7, v8, v9, v10, v11, v12, v13, v14, v15, v16, v17, v18, v19, v20, v21, .ref a22, v23, v24, v25, v26, v27, v28, v29, v30, v31, v32, v33, v34, v35, v36, v37, v38, v39, v40, v41, v42, v43, v44, v45, v46, v47, v48, v49, v50, v51])), (a22, .inl (cI, 58, .inl (upd (upd nw (((16 + (13 * k)) + 1) + (2 * (rz k))) (nI x)) (((16 + (13 * k)) + 2) + (2 * (rz k))) v)))] H := hP
    have hD : va_D A [(h0, .inr (9, [v0, v1, v2, v3, v4, v5, v6, v7, v8, v9, v10, v11, v12, v13, v14, v15, v16, v17, v18, v19, v20, v21, .ref a22, v23, v24, v25, v26, v27, v28, v29, v30, v31, v32, v33, v34, v35, v36, v37, v38, v39, v40, v41, v42, v43, v44, v45, v46, v47, v48, v49, v50, v51])), (a22, .inl (cI, 58, .inl (upd (upd nw (((16 + (13 * k)) + 1) + (2 * (rz k))) (nI x)) (((16 + (13 * k)) + 2) + (2 * (rz k))) v)))] := hD
    refine lv_aload_n hx hb dX9_put_62 rfl (lv_at hl 1 rfl) ?_
    refine va_get (D := D) (ci := 9) (v := .ref a22) (C := RX9) (T := TX9) (N := 52) hx hb hts (fun _ h => List.mem_cons_of_mem _ (List.mem_append_left _ (List.mem_append_right _ h))) hown hK hP 0 rfl rfl 22 (by decide) (hts (.fieldLink RX9 75 "LitmusHallModel" "now" "[I") (by decide +kernel)) (fun _ h9 => h9) rfl dX9_put_63 ?_
    refine lv_iload hx hb dX9_put_66 (lv_at hl 0 rfl) ?_
    refine lv_dup2_11 hx hb dX9_put_68 rfl rfl ?_
    refine gy_ild (i := (16 + (13 * k))) hx hb hK hP 1 rfl (by omega) (by omega) dX9_put_69 ?_
    refine gx_top (y := nI (rz k)) (by rw [pk_un (by omega), pk_un (by omega)]; exact e2) ?_
    refine lv_iconst (v := 1) hx hb dX9_put_70 (by decide) ?_
    refine lv_iadd hx hb dX9_put_71 ?_
    refine gx_top (y := nI ((rz k) + 1)) (nI_add (rz k) 1) ?_
    refine gy_ist (i := (16 + (13 * k))) hx hb hK hP hD hS 1 rfl (by omega) (by omega) dX9_put_72 (fun H locs hP hD hS => ?_)
    have hP : va_P D vwCl [(h0, .inr (9, [v0, v1, v2, v3, v4, v5, v6, v7, v8, v9, v10, v11, v12, v13, v14, v15, v16, v17, v18, v19, v20, v21, .ref a22, v23, v24, v25, v26, v27, v28, v29, v30, v31, v32, v33, v34, v35, v36, v37, v38, v39, v40, v41, v42, v43, v44, v45, v46, v47, v48, v49, v50, v51])), (a22, .inl (cI, 58, .inl (upd (upd (upd nw (((16 + (13 * k)) + 1) + (2 * (rz k))) (nI x)) (((16 + (13 * k)) + 2) + (2 * (rz k))) v) (16 + (13 * k)) (nI ((rz k) + 1)))))] H := hP
    have hD : va_D A [(h0, .inr (9, [v0, v1, v2, v3, v4, v5, v6, v7, v8, v9, v10, v11, v12, v13, v14, v15, v16, v17, v18, v19, v20, v21, .ref a22, v23, v24, v25, v26, v27, v28, v29, v30, v31, v32, v33, v34, v35, v36, v37, v38, v39, v40, v41, v42, v43, v44, v45, v46, v47, v48, v49, v50, v51])), (a22, .inl (cI, 58, .inl (upd (upd (upd nw (((16 + (13 * k)) + 1) + (2 * (rz k))) (nI x)) (((16 + (13 * k)) + 2) + (2 * (rz k))) v) (16 + (13 * k)) (nI ((rz k) + 1)))))] := hD
    exact gx_vret (w' := [(h0, .inr (9, [v0, v1, v2, v3, v4, v5, v6, v7, v8, v9, v10, v11, v12, v13, v14, v15, v16, v17, v18, v19, v20, v21, .ref a22, v23, v24, v25, v26, v27, v28, v29, v30, v31, v32, v33, v34, v35, v36, v37, v38, v39, v40, v41, v42, v43, v44, v45, v46, v47, v48, v49, v50, v51])), (a22, .inl (cI, 58, .inl (upd (upd (upd nw (((16 + (13 * k)) + 1) + (2 * (rz k))) (nI x)) (((16 + (13 * k)) + 2) + (2 * (rz k))) v) (16 + (13 * k)) (nI ((rz k) + 1)))))]) hx hb hr hlk hK hP hD hS (Nat.le_of_ble_eq_true rfl) (Nat.le_of_ble_eq_true rfl) dX9_put_73 ⟨(upd (upd (upd nw (((16 + (13 * k)) + 1) + (2 * (rz k))) (nI x)) (((16 + (13 * k)) + 2) + (2 * (rz k))) v) (16 + (13 * k)) (nI ((rz k) + 1))), (updN rz k (rz k + 1)), (gW9_put hG hk hx0 hzz), (Or.inr ⟨c_1, rfl⟩), rfl⟩
  · refine lv_aload_n hx hb dX9_put_5 rfl (lv_at hl 0 rfl) ?_
    refine va_get (D := D) (ci := 9) (v := .ref a22) (C := RX9) (T := TX9) (N := 52) hx hb hts (fun _ h => List.mem_cons_of_mem _ (List.mem_append_left _ (List.mem_append_right _ h))) hown hK hP 0 rfl rfl 22 (by decide) (hts (.fieldLink RX9 75 "LitmusHallModel" "now" "[I") (by decide +kernel)) (fun _ h9 => h9) rfl dX9_put_6 ?_
    refine lv_bipush (v := 12) hx hb dX9_put_9 (by decide) ?_
    refine lv_iload_n hx hb dX9_put_11 rfl (lv_at hl 2 rfl) ?_
    refine lv_iadd hx hb dX9_put_12 ?_
    refine gx_top (y := nI (12 + x)) (nI_add 12 x) ?_
    refine lv_iload_n hx hb dX9_put_13 rfl (lv_at hl 3 rfl) ?_
    refine gy_ist (i := (12 + x)) hx hb hK hP hD hS 1 rfl (by omega) (by omega) dX9_put_14 (fun H locs hP hD hS => ?_)
    have hP : va_P D vwCl [(h0, .inr (9, [v0, v1, v2, v3, v4, v5, v6, v7, v8, v9, v10, v11, v12, v13, v14, v15, v16, v17, v18, v19, v20, v21, .ref a22, v23, v24, v25, v26, v27, v28, v29, v30, v31, v32, v33, v34, v35, v36, v37, v38, v39, v40, v41, v42, v43, v44, v45, v46, v47, v48, v49, v50, v51])), (a22, .inl (cI, 58, .inl (upd nw (12 + x) v)))] H := hP
    have hD : va_D A [(h0, .inr (9, [v0, v1, v2, v3, v4, v5, v6, v7, v8, v9, v10, v11, v12, v13, v14, v15, v16, v17, v18, v19, v20, v21, .ref a22, v23, v24, v25, v26, v27, v28, v29, v30, v31, v32, v33, v34, v35, v36, v37, v38, v39, v40, v41, v42, v43, v44, v45, v46, v47, v48, v49, v50, v51])), (a22, .inl (cI, 58, .inl (upd nw (12 + x) v)))] := hD
    exact gx_vret (w' := [(h0, .inr (9, [v0, v1, v2, v3, v4, v5, v6, v7, v8, v9, v10, v11, v12, v13, v14, v15, v16, v17, v18, v19, v20, v21, .ref a22, v23, v24, v25, v26, v27, v28, v29, v30, v31, v32, v33, v34, v35, v36, v37, v38, v39, v40, v41, v42, v43, v44, v45, v46, v47, v48, v49, v50, v51])), (a22, .inl (cI, 58, .inl (upd nw (12 + x) v)))]) hx hb hr hlk hK hP hD hS (Nat.le_of_ble_eq_true rfl) (Nat.le_of_ble_eq_true rfl) dX9_put_15 ⟨(upd nw (12 + x) v), rz, (gW9_out hG (by omega)), (Or.inl ⟨c_1, rfl⟩), rfl⟩
