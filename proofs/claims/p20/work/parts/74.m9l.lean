theorem dX9_can_0 : decode cX9_can 0 = .ok (.iload_n 3, 1) := by decide +kernel
theorem dX9_can_1 : decode cX9_can 1 = .ok (.ifCond .lt 8, 3) := by decide +kernel
theorem dX9_can_10 : decode cX9_can 10 = .ok (.ireturn, 1) := by decide +kernel
theorem dX9_can_100 : decode cX9_can 100 = .ok (.iload 4, 2) := by decide +kernel
theorem dX9_can_102 : decode cX9_can 102 = .ok (.imul, 1) := by decide +kernel
theorem dX9_can_103 : decode cX9_can 103 = .ok (.iadd, 1) := by decide +kernel
theorem dX9_can_104 : decode cX9_can 104 = .ok (.aload_n 0, 1) := by decide +kernel
theorem dX9_can_105 : decode cX9_can 105 = .ok (.getfield 75, 3) := by decide +kernel
theorem dX9_can_108 : decode cX9_can 108 = .ok (.iload 4, 2) := by decide +kernel
theorem dX9_can_11 : decode cX9_can 11 = .ok (.iload_n 3, 1) := by decide +kernel
theorem dX9_can_110 : decode cX9_can 110 = .ok (.iaload, 1) := by decide +kernel
theorem dX9_can_111 : decode cX9_can 111 = .ok (.iadd, 1) := by decide +kernel
theorem dX9_can_112 : decode cX9_can 112 = .ok (.iaload, 1) := by decide +kernel
theorem dX9_can_113 : decode cX9_can 113 = .ok (.istore 5, 2) := by decide +kernel
theorem dX9_can_115 : decode cX9_can 115 = .ok (.iload 5, 2) := by decide +kernel
theorem dX9_can_117 : decode cX9_can 117 = .ok (.iconst 4, 1) := by decide +kernel
theorem dX9_can_118 : decode cX9_can 118 = .ok (.if_icmp .eq 9, 3) := by decide +kernel
theorem dX9_can_12 : decode cX9_can 12 = .ok (.iconst 3, 1) := by decide +kernel
theorem dX9_can_121 : decode cX9_can 121 = .ok (.iload 5, 2) := by decide +kernel
theorem dX9_can_123 : decode cX9_can 123 = .ok (.iconst 5, 1) := by decide +kernel
theorem dX9_can_124 : decode cX9_can 124 = .ok (.if_icmp .lt 23, 3) := by decide +kernel
theorem dX9_can_127 : decode cX9_can 127 = .ok (.iload 5, 2) := by decide +kernel
theorem dX9_can_129 : decode cX9_can 129 = .ok (.bipush 8, 2) := by decide +kernel
theorem dX9_can_13 : decode cX9_can 13 = .ok (.irem, 1) := by decide +kernel
theorem dX9_can_131 : decode cX9_can 131 = .ok (.if_icmp .eq 16, 3) := by decide +kernel
theorem dX9_can_134 : decode cX9_can 134 = .ok (.aload_n 0, 1) := by decide +kernel
theorem dX9_can_135 : decode cX9_can 135 = .ok (.getfield 75, 3) := by decide +kernel
theorem dX9_can_138 : decode cX9_can 138 = .ok (.iload 4, 2) := by decide +kernel
theorem dX9_can_14 : decode cX9_can 14 = .ok (.istore 4, 2) := by decide +kernel
theorem dX9_can_140 : decode cX9_can 140 = .ok (.invokestatic 267, 3) := by decide +kernel
theorem dX9_can_143 : decode cX9_can 143 = .ok (.iaload, 1) := by decide +kernel
theorem dX9_can_144 : decode cX9_can 144 = .ok (.ifCond .ne 7, 3) := by decide +kernel
theorem dX9_can_147 : decode cX9_can 147 = .ok (.iconst 1, 1) := by decide +kernel
theorem dX9_can_148 : decode cX9_can 148 = .ok (.goto 4, 3) := by decide +kernel
theorem dX9_can_151 : decode cX9_can 151 = .ok (.iconst 0, 1) := by decide +kernel
theorem dX9_can_152 : decode cX9_can 152 = .ok (.ireturn, 1) := by decide +kernel
theorem dX9_can_16 : decode cX9_can 16 = .ok (.iload_n 3, 1) := by decide +kernel
theorem dX9_can_17 : decode cX9_can 17 = .ok (.iconst 2, 1) := by decide +kernel
theorem dX9_can_18 : decode cX9_can 18 = .ok (.if_icmp .le 38, 3) := by decide +kernel
theorem dX9_can_21 : decode cX9_can 21 = .ok (.iload_n 2, 1) := by decide +kernel
theorem dX9_can_22 : decode cX9_can 22 = .ok (.iconst 1, 1) := by decide +kernel
theorem dX9_can_23 : decode cX9_can 23 = .ok (.if_icmp .ne 31, 3) := by decide +kernel
theorem dX9_can_26 : decode cX9_can 26 = .ok (.iload 4, 2) := by decide +kernel
theorem dX9_can_28 : decode cX9_can 28 = .ok (.aload_n 0, 1) := by decide +kernel
theorem dX9_can_29 : decode cX9_can 29 = .ok (.getfield 7, 3) := by decide +kernel
theorem dX9_can_32 : decode cX9_can 32 = .ok (.iload_n 1, 1) := by decide +kernel
theorem dX9_can_33 : decode cX9_can 33 = .ok (.iaload, 1) := by decide +kernel
theorem dX9_can_34 : decode cX9_can 34 = .ok (.if_icmp .ge 20, 3) := by decide +kernel
theorem dX9_can_37 : decode cX9_can 37 = .ok (.aload_n 0, 1) := by decide +kernel
theorem dX9_can_38 : decode cX9_can 38 = .ok (.getfield 75, 3) := by decide +kernel
theorem dX9_can_4 : decode cX9_can 4 = .ok (.iload_n 3, 1) := by decide +kernel
theorem dX9_can_41 : decode cX9_can 41 = .ok (.iload 4, 2) := by decide +kernel
theorem dX9_can_43 : decode cX9_can 43 = .ok (.invokestatic 267, 3) := by decide +kernel
theorem dX9_can_46 : decode cX9_can 46 = .ok (.iaload, 1) := by decide +kernel
theorem dX9_can_47 : decode cX9_can 47 = .ok (.ifCond .le 7, 3) := by decide +kernel
theorem dX9_can_5 : decode cX9_can 5 = .ok (.iconst 5, 1) := by decide +kernel
theorem dX9_can_50 : decode cX9_can 50 = .ok (.iconst 1, 1) := by decide +kernel
theorem dX9_can_51 : decode cX9_can 51 = .ok (.goto 4, 3) := by decide +kernel
theorem dX9_can_54 : decode cX9_can 54 = .ok (.iconst 0, 1) := by decide +kernel
theorem dX9_can_55 : decode cX9_can 55 = .ok (.ireturn, 1) := by decide +kernel
theorem dX9_can_56 : decode cX9_can 56 = .ok (.iload 4, 2) := by decide +kernel
theorem dX9_can_58 : decode cX9_can 58 = .ok (.aload_n 0, 1) := by decide +kernel
theorem dX9_can_59 : decode cX9_can 59 = .ok (.getfield 7, 3) := by decide +kernel
theorem dX9_can_6 : decode cX9_can 6 = .ok (.if_icmp .le 5, 3) := by decide +kernel
theorem dX9_can_62 : decode cX9_can 62 = .ok (.iload_n 1, 1) := by decide +kernel
theorem dX9_can_63 : decode cX9_can 63 = .ok (.iaload, 1) := by decide +kernel
theorem dX9_can_64 : decode cX9_can 64 = .ok (.if_icmp .ge 24, 3) := by decide +kernel
theorem dX9_can_67 : decode cX9_can 67 = .ok (.aload_n 0, 1) := by decide +kernel
theorem dX9_can_68 : decode cX9_can 68 = .ok (.getfield 75, 3) := by decide +kernel
theorem dX9_can_71 : decode cX9_can 71 = .ok (.iload 4, 2) := by decide +kernel
theorem dX9_can_73 : decode cX9_can 73 = .ok (.iaload, 1) := by decide +kernel
theorem dX9_can_74 : decode cX9_can 74 = .ok (.aload_n 0, 1) := by decide +kernel
theorem dX9_can_75 : decode cX9_can 75 = .ok (.getfield 13, 3) := by decide +kernel
theorem dX9_can_78 : decode cX9_can 78 = .ok (.iconst 3, 1) := by decide +kernel
theorem dX9_can_79 : decode cX9_can 79 = .ok (.iload_n 1, 1) := by decide +kernel
theorem dX9_can_80 : decode cX9_can 80 = .ok (.imul, 1) := by decide +kernel
theorem dX9_can_81 : decode cX9_can 81 = .ok (.iload 4, 2) := by decide +kernel
theorem dX9_can_83 : decode cX9_can 83 = .ok (.iadd, 1) := by decide +kernel
theorem dX9_can_84 : decode cX9_can 84 = .ok (.iaload, 1) := by decide +kernel
theorem dX9_can_85 : decode cX9_can 85 = .ok (.if_icmp .lt 5, 3) := by decide +kernel
theorem dX9_can_88 : decode cX9_can 88 = .ok (.iconst 0, 1) := by decide +kernel
theorem dX9_can_89 : decode cX9_can 89 = .ok (.ireturn, 1) := by decide +kernel
theorem dX9_can_9 : decode cX9_can 9 = .ok (.iconst 0, 1) := by decide +kernel
theorem dX9_can_90 : decode cX9_can 90 = .ok (.aload_n 0, 1) := by decide +kernel
theorem dX9_can_91 : decode cX9_can 91 = .ok (.getfield 16, 3) := by decide +kernel
theorem dX9_can_94 : decode cX9_can 94 = .ok (.bipush 36, 2) := by decide +kernel
theorem dX9_can_96 : decode cX9_can 96 = .ok (.iload_n 1, 1) := by decide +kernel
theorem dX9_can_97 : decode cX9_can 97 = .ok (.imul, 1) := by decide +kernel
theorem dX9_can_98 : decode cX9_can 98 = .ok (.bipush 12, 2) := by decide +kernel
theorem dX9_loaded_0 : decode cX9_loaded 0 = .ok (.iload_n 1, 1) := by decide +kernel
theorem dX9_loaded_1 : decode cX9_loaded 1 = .ok (.invokestatic 267, 3) := by decide +kernel
theorem dX9_loaded_10 : decode cX9_loaded 10 = .ok (.iaload, 1) := by decide +kernel
theorem dX9_loaded_11 : decode cX9_loaded 11 = .ok (.iconst 1, 1) := by decide +kernel
theorem dX9_loaded_12 : decode cX9_loaded 12 = .ok (.isub, 1) := by decide +kernel
theorem dX9_loaded_13 : decode cX9_loaded 13 = .ok (.istore 4, 2) := by decide +kernel
theorem dX9_loaded_15 : decode cX9_loaded 15 = .ok (.iload 4, 2) := by decide +kernel
theorem dX9_loaded_17 : decode cX9_loaded 17 = .ok (.ifCond .lt 40, 3) := by decide +kernel
theorem dX9_loaded_20 : decode cX9_loaded 20 = .ok (.aload_n 0, 1) := by decide +kernel
theorem dX9_loaded_21 : decode cX9_loaded 21 = .ok (.getfield 75, 3) := by decide +kernel
theorem dX9_loaded_24 : decode cX9_loaded 24 = .ok (.iload_n 3, 1) := by decide +kernel
theorem dX9_loaded_25 : decode cX9_loaded 25 = .ok (.iconst 1, 1) := by decide +kernel
theorem dX9_loaded_26 : decode cX9_loaded 26 = .ok (.iadd, 1) := by decide +kernel
theorem dX9_loaded_27 : decode cX9_loaded 27 = .ok (.iconst 2, 1) := by decide +kernel
theorem dX9_loaded_28 : decode cX9_loaded 28 = .ok (.iload 4, 2) := by decide +kernel
theorem dX9_loaded_30 : decode cX9_loaded 30 = .ok (.imul, 1) := by decide +kernel
theorem dX9_loaded_31 : decode cX9_loaded 31 = .ok (.iadd, 1) := by decide +kernel
theorem dX9_loaded_32 : decode cX9_loaded 32 = .ok (.iaload, 1) := by decide +kernel
theorem dX9_loaded_33 : decode cX9_loaded 33 = .ok (.iload_n 2, 1) := by decide +kernel
theorem dX9_loaded_34 : decode cX9_loaded 34 = .ok (.if_icmp .ne 17, 3) := by decide +kernel
theorem dX9_loaded_37 : decode cX9_loaded 37 = .ok (.aload_n 0, 1) := by decide +kernel
theorem dX9_loaded_38 : decode cX9_loaded 38 = .ok (.getfield 75, 3) := by decide +kernel
theorem dX9_loaded_4 : decode cX9_loaded 4 = .ok (.istore_n 3, 1) := by decide +kernel
theorem dX9_loaded_41 : decode cX9_loaded 41 = .ok (.iload_n 3, 1) := by decide +kernel
theorem dX9_loaded_42 : decode cX9_loaded 42 = .ok (.iconst 2, 1) := by decide +kernel
theorem dX9_loaded_43 : decode cX9_loaded 43 = .ok (.iadd, 1) := by decide +kernel
theorem dX9_loaded_44 : decode cX9_loaded 44 = .ok (.iconst 2, 1) := by decide +kernel
theorem dX9_loaded_45 : decode cX9_loaded 45 = .ok (.iload 4, 2) := by decide +kernel
theorem dX9_loaded_47 : decode cX9_loaded 47 = .ok (.imul, 1) := by decide +kernel
theorem dX9_loaded_48 : decode cX9_loaded 48 = .ok (.iadd, 1) := by decide +kernel
theorem dX9_loaded_49 : decode cX9_loaded 49 = .ok (.iaload, 1) := by decide +kernel
theorem dX9_loaded_5 : decode cX9_loaded 5 = .ok (.aload_n 0, 1) := by decide +kernel
theorem dX9_loaded_50 : decode cX9_loaded 50 = .ok (.ireturn, 1) := by decide +kernel
theorem dX9_loaded_51 : decode cX9_loaded 51 = .ok (.iinc 4 (-1), 3) := by decide +kernel
theorem dX9_loaded_54 : decode cX9_loaded 54 = .ok (.goto (-39), 3) := by decide +kernel
theorem dX9_loaded_57 : decode cX9_loaded 57 = .ok (.aload_n 0, 1) := by decide +kernel
theorem dX9_loaded_58 : decode cX9_loaded 58 = .ok (.getfield 75, 3) := by decide +kernel
theorem dX9_loaded_6 : decode cX9_loaded 6 = .ok (.getfield 75, 3) := by decide +kernel
theorem dX9_loaded_61 : decode cX9_loaded 61 = .ok (.bipush 12, 2) := by decide +kernel
theorem dX9_loaded_63 : decode cX9_loaded 63 = .ok (.iload_n 2, 1) := by decide +kernel
theorem dX9_loaded_64 : decode cX9_loaded 64 = .ok (.iadd, 1) := by decide +kernel
theorem dX9_loaded_65 : decode cX9_loaded 65 = .ok (.iaload, 1) := by decide +kernel
theorem dX9_loaded_66 : decode cX9_loaded 66 = .ok (.ireturn, 1) := by decide +kernel
theorem dX9_loaded_9 : decode cX9_loaded 9 = .ok (.iload_n 3, 1) := by decide +kernel
theorem dX9_locked_0 : decode cX9_locked 0 = .ok (.iload_n 1, 1) := by decide +kernel
theorem dX9_locked_1 : decode cX9_locked 1 = .ok (.iconst 4, 1) := by decide +kernel
theorem dX9_locked_10 : decode cX9_locked 10 = .ok (.bipush 12, 2) := by decide +kernel
theorem dX9_locked_12 : decode cX9_locked 12 = .ok (.iload_n 3, 1) := by decide +kernel
theorem dX9_locked_13 : decode cX9_locked 13 = .ok (.iadd, 1) := by decide +kernel
theorem dX9_locked_14 : decode cX9_locked 14 = .ok (.iaload, 1) := by decide +kernel
theorem dX9_locked_15 : decode cX9_locked 15 = .ok (.istore 6, 2) := by decide +kernel
theorem dX9_locked_17 : decode cX9_locked 17 = .ok (.iload_n 1, 1) := by decide +kernel
theorem dX9_locked_18 : decode cX9_locked 18 = .ok (.iconst 5, 1) := by decide +kernel
theorem dX9_locked_19 : decode cX9_locked 19 = .ok (.if_icmp .ne 21, 3) := by decide +kernel
theorem dX9_locked_2 : decode cX9_locked 2 = .ok (.if_icmp .ne 4, 3) := by decide +kernel
theorem dX9_locked_22 : decode cX9_locked 22 = .ok (.aload_n 0, 1) := by decide +kernel
theorem dX9_locked_23 : decode cX9_locked 23 = .ok (.getfield 75, 3) := by decide +kernel
theorem dX9_locked_26 : decode cX9_locked 26 = .ok (.bipush 12, 2) := by decide +kernel
theorem dX9_locked_28 : decode cX9_locked 28 = .ok (.iload_n 3, 1) := by decide +kernel
theorem dX9_locked_29 : decode cX9_locked 29 = .ok (.iadd, 1) := by decide +kernel
theorem dX9_locked_30 : decode cX9_locked 30 = .ok (.aload_n 0, 1) := by decide +kernel
theorem dX9_locked_31 : decode cX9_locked 31 = .ok (.getfield 75, 3) := by decide +kernel
theorem dX9_locked_34 : decode cX9_locked 34 = .ok (.iload_n 2, 1) := by decide +kernel
theorem dX9_locked_35 : decode cX9_locked 35 = .ok (.iaload, 1) := by decide +kernel
theorem dX9_locked_36 : decode cX9_locked 36 = .ok (.iastore, 1) := by decide +kernel
theorem dX9_locked_37 : decode cX9_locked 37 = .ok (.goto 49, 3) := by decide +kernel
theorem dX9_locked_40 : decode cX9_locked 40 = .ok (.iload_n 1, 1) := by decide +kernel
theorem dX9_locked_41 : decode cX9_locked 41 = .ok (.bipush 6, 2) := by decide +kernel
theorem dX9_locked_43 : decode cX9_locked 43 = .ok (.if_icmp .ne 20, 3) := by decide +kernel
theorem dX9_locked_46 : decode cX9_locked 46 = .ok (.aload_n 0, 1) := by decide +kernel
theorem dX9_locked_47 : decode cX9_locked 47 = .ok (.getfield 75, 3) := by decide +kernel
theorem dX9_locked_5 : decode cX9_locked 5 = .ok (.return_, 1) := by decide +kernel
theorem dX9_locked_50 : decode cX9_locked 50 = .ok (.bipush 12, 2) := by decide +kernel
theorem dX9_locked_52 : decode cX9_locked 52 = .ok (.iload_n 3, 1) := by decide +kernel
theorem dX9_locked_53 : decode cX9_locked 53 = .ok (.iadd, 1) := by decide +kernel
theorem dX9_locked_54 : decode cX9_locked 54 = .ok (.iload 6, 2) := by decide +kernel
theorem dX9_locked_56 : decode cX9_locked 56 = .ok (.iload 4, 2) := by decide +kernel
theorem dX9_locked_58 : decode cX9_locked 58 = .ok (.iadd, 1) := by decide +kernel
theorem dX9_locked_59 : decode cX9_locked 59 = .ok (.iastore, 1) := by decide +kernel
theorem dX9_locked_6 : decode cX9_locked 6 = .ok (.aload_n 0, 1) := by decide +kernel
theorem dX9_locked_60 : decode cX9_locked 60 = .ok (.goto 26, 3) := by decide +kernel
theorem dX9_locked_63 : decode cX9_locked 63 = .ok (.aload_n 0, 1) := by decide +kernel
theorem dX9_locked_64 : decode cX9_locked 64 = .ok (.getfield 75, 3) := by decide +kernel
theorem dX9_locked_67 : decode cX9_locked 67 = .ok (.bipush 12, 2) := by decide +kernel
theorem dX9_locked_69 : decode cX9_locked 69 = .ok (.iload_n 3, 1) := by decide +kernel
theorem dX9_locked_7 : decode cX9_locked 7 = .ok (.getfield 75, 3) := by decide +kernel
theorem dX9_locked_70 : decode cX9_locked 70 = .ok (.iadd, 1) := by decide +kernel
theorem dX9_locked_71 : decode cX9_locked 71 = .ok (.iload 6, 2) := by decide +kernel
theorem dX9_locked_73 : decode cX9_locked 73 = .ok (.iload 4, 2) := by decide +kernel
theorem dX9_locked_75 : decode cX9_locked 75 = .ok (.if_icmp .ne 8, 3) := by decide +kernel
theorem dX9_locked_78 : decode cX9_locked 78 = .ok (.iload 5, 2) := by decide +kernel
theorem dX9_locked_80 : decode cX9_locked 80 = .ok (.goto 5, 3) := by decide +kernel
theorem dX9_locked_83 : decode cX9_locked 83 = .ok (.iload 6, 2) := by decide +kernel
theorem dX9_locked_85 : decode cX9_locked 85 = .ok (.iastore, 1) := by decide +kernel
theorem dX9_locked_86 : decode cX9_locked 86 = .ok (.aload_n 0, 1) := by decide +kernel
theorem dX9_locked_87 : decode cX9_locked 87 = .ok (.getfield 75, 3) := by decide +kernel
theorem dX9_locked_90 : decode cX9_locked 90 = .ok (.iload_n 2, 1) := by decide +kernel
theorem dX9_locked_91 : decode cX9_locked 91 = .ok (.iload 6, 2) := by decide +kernel
theorem dX9_locked_93 : decode cX9_locked 93 = .ok (.iastore, 1) := by decide +kernel
theorem dX9_locked_94 : decode cX9_locked 94 = .ok (.return_, 1) := by decide +kernel
theorem dX9_put_0 : decode cX9_put 0 = .ok (.iload 4, 2) := by decide +kernel
theorem dX9_put_11 : decode cX9_put 11 = .ok (.iload_n 2, 1) := by decide +kernel
theorem dX9_put_12 : decode cX9_put 12 = .ok (.iadd, 1) := by decide +kernel
theorem dX9_put_13 : decode cX9_put 13 = .ok (.iload_n 3, 1) := by decide +kernel
theorem dX9_put_14 : decode cX9_put 14 = .ok (.iastore, 1) := by decide +kernel
theorem dX9_put_15 : decode cX9_put 15 = .ok (.return_, 1) := by decide +kernel
theorem dX9_put_16 : decode cX9_put 16 = .ok (.iload_n 1, 1) := by decide +kernel
theorem dX9_put_17 : decode cX9_put 17 = .ok (.invokestatic 267, 3) := by decide +kernel
theorem dX9_put_2 : decode cX9_put 2 = .ok (.ifCond .ne 14, 3) := by decide +kernel
theorem dX9_put_20 : decode cX9_put 20 = .ok (.istore 5, 2) := by decide +kernel
theorem dX9_put_22 : decode cX9_put 22 = .ok (.aload_n 0, 1) := by decide +kernel
theorem dX9_put_23 : decode cX9_put 23 = .ok (.getfield 75, 3) := by decide +kernel
theorem dX9_put_26 : decode cX9_put 26 = .ok (.iload 5, 2) := by decide +kernel
theorem dX9_put_28 : decode cX9_put 28 = .ok (.iconst 1, 1) := by decide +kernel
theorem dX9_put_29 : decode cX9_put 29 = .ok (.iadd, 1) := by decide +kernel
theorem dX9_put_30 : decode cX9_put 30 = .ok (.iconst 2, 1) := by decide +kernel
theorem dX9_put_31 : decode cX9_put 31 = .ok (.aload_n 0, 1) := by decide +kernel
theorem dX9_put_32 : decode cX9_put 32 = .ok (.getfield 75, 3) := by decide +kernel
theorem dX9_put_35 : decode cX9_put 35 = .ok (.iload 5, 2) := by decide +kernel
theorem dX9_put_37 : decode cX9_put 37 = .ok (.iaload, 1) := by decide +kernel
theorem dX9_put_38 : decode cX9_put 38 = .ok (.imul, 1) := by decide +kernel
theorem dX9_put_39 : decode cX9_put 39 = .ok (.iadd, 1) := by decide +kernel
theorem dX9_put_40 : decode cX9_put 40 = .ok (.iload_n 2, 1) := by decide +kernel
theorem dX9_put_41 : decode cX9_put 41 = .ok (.iastore, 1) := by decide +kernel
theorem dX9_put_42 : decode cX9_put 42 = .ok (.aload_n 0, 1) := by decide +kernel
theorem dX9_put_43 : decode cX9_put 43 = .ok (.getfield 75, 3) := by decide +kernel
theorem dX9_put_46 : decode cX9_put 46 = .ok (.iload 5, 2) := by decide +kernel
theorem dX9_put_48 : decode cX9_put 48 = .ok (.iconst 2, 1) := by decide +kernel
theorem dX9_put_49 : decode cX9_put 49 = .ok (.iadd, 1) := by decide +kernel
theorem dX9_put_5 : decode cX9_put 5 = .ok (.aload_n 0, 1) := by decide +kernel
theorem dX9_put_50 : decode cX9_put 50 = .ok (.iconst 2, 1) := by decide +kernel
theorem dX9_put_51 : decode cX9_put 51 = .ok (.aload_n 0, 1) := by decide +kernel
theorem dX9_put_52 : decode cX9_put 52 = .ok (.getfield 75, 3) := by decide +kernel
theorem dX9_put_55 : decode cX9_put 55 = .ok (.iload 5, 2) := by decide +kernel
theorem dX9_put_57 : decode cX9_put 57 = .ok (.iaload, 1) := by decide +kernel
theorem dX9_put_58 : decode cX9_put 58 = .ok (.imul, 1) := by decide +kernel
theorem dX9_put_59 : decode cX9_put 59 = .ok (.iadd, 1) := by decide +kernel
theorem dX9_put_6 : decode cX9_put 6 = .ok (.getfield 75, 3) := by decide +kernel
theorem dX9_put_60 : decode cX9_put 60 = .ok (.iload_n 3, 1) := by decide +kernel
theorem dX9_put_61 : decode cX9_put 61 = .ok (.iastore, 1) := by decide +kernel
theorem dX9_put_62 : decode cX9_put 62 = .ok (.aload_n 0, 1) := by decide +kernel
theorem dX9_put_63 : decode cX9_put 63 = .ok (.getfield 75, 3) := by decide +kernel
theorem dX9_put_66 : decode cX9_put 66 = .ok (.iload 5, 2) := by decide +kernel
theorem dX9_put_68 : decode cX9_put 68 = .ok (.dup2, 1) := by decide +kernel
theorem dX9_put_69 : decode cX9_put 69 = .ok (.iaload, 1) := by decide +kernel
theorem dX9_put_70 : decode cX9_put 70 = .ok (.iconst 1, 1) := by decide +kernel
theorem dX9_put_71 : decode cX9_put 71 = .ok (.iadd, 1) := by decide +kernel
theorem dX9_put_72 : decode cX9_put 72 = .ok (.iastore, 1) := by decide +kernel
theorem dX9_put_73 : decode cX9_put 73 = .ok (.return_, 1) := by decide +kernel
theorem dX9_put_9 : decode cX9_put 9 = .ok (.bipush 12, 2) := by decide +kernel
theorem dX9_taken_0 : decode cX9_taken 0 = .ok (.iload_n 2, 1) := by decide +kernel
theorem dX9_taken_1 : decode cX9_taken 1 = .ok (.ifCond .ge 7, 3) := by decide +kernel
theorem dX9_taken_12 : decode cX9_taken 12 = .ok (.iconst 3, 1) := by decide +kernel
theorem dX9_taken_13 : decode cX9_taken 13 = .ok (.iconst 3, 1) := by decide +kernel
theorem dX9_taken_14 : decode cX9_taken 14 = .ok (.iload_n 1, 1) := by decide +kernel
theorem dX9_taken_15 : decode cX9_taken 15 = .ok (.imul, 1) := by decide +kernel
theorem dX9_taken_16 : decode cX9_taken 16 = .ok (.iadd, 1) := by decide +kernel
theorem dX9_taken_17 : decode cX9_taken 17 = .ok (.iload_n 2, 1) := by decide +kernel
theorem dX9_taken_18 : decode cX9_taken 18 = .ok (.iadd, 1) := by decide +kernel
theorem dX9_taken_19 : decode cX9_taken 19 = .ok (.iaload, 1) := by decide +kernel
theorem dX9_taken_20 : decode cX9_taken 20 = .ok (.ireturn, 1) := by decide +kernel
theorem dX9_taken_4 : decode cX9_taken 4 = .ok (.iload_n 3, 1) := by decide +kernel
theorem dX9_taken_5 : decode cX9_taken 5 = .ok (.goto 15, 3) := by decide +kernel
theorem dX9_taken_8 : decode cX9_taken 8 = .ok (.aload_n 0, 1) := by decide +kernel
theorem dX9_taken_9 : decode cX9_taken 9 = .ok (.getfield 75, 3) := by decide +kernel
/-- the reference's STATE: which INS is next, how many stores wait, their CELLS -/
def gW9 (w : Nat → Int32) (nx rz : Nat → Nat) : Prop := ∀ k, k < 3 → w k = nI (nx k) ∧ w (16 + (13 * k)) = nI (rz k) ∧ nx k ≤ 1200 ∧ rz k ≤ 6 ∧ ∀ i, i < rz k → ∃ x, x < 4 ∧ w (((16 + (13 * k)) + 1) + (2 * i)) = nI x
theorem gW9_out {w : Nat → Int32} {nx rz : Nat → Nat} {i : Nat} {v : Int32} (h : gW9 w nx rz) (hi : (3 ≤ i ∧ i < 16) ∨ 55 ≤ i) : gW9 (upd w i v) nx rz := by
  intro k hk
  obtain ⟨h1, h2, h3, h4, h5⟩ := h k hk
  refine ⟨by rw [pk_un (by omega)]; exact h1, by rw [pk_un (by omega)]; exact h2, h3, h4, fun j hj => ?_⟩
  obtain ⟨x, a, b⟩ := h5 j hj
  exact ⟨x, a, by rw [pk_un (by omega)]; exact b⟩
theorem gW9_next {w : Nat → Int32} {nx rz : Nat → Nat} {k n : Nat} (h : gW9 w nx rz) (hk : k < 3) (hn : n ≤ 1200) : gW9 (upd w k (nI n)) (updN nx k n) rz := by
  intro j hj
  obtain ⟨h1, h2, h3, h4, h5⟩ := h j hj
  refine ⟨?_, by rw [pk_un (by omega)]; exact h2, ?_, h4, fun i hi => ?_⟩
  · by_cases e : j = k
    · subst e; rw [pk_us, updN_s]
    · rw [pk_un e, updN_n e]; exact h1
  · by_cases e : j = k
    · subst e; rw [updN_s]; exact hn
    · rw [updN_n e]; exact h3
  · obtain ⟨x, a, b⟩ := h5 i hi
    exact ⟨x, a, by rw [pk_un (by omega)]; exact b⟩
theorem gW9_put {w : Nat → Int32} {nx rz : Nat → Nat} {k x : Nat} {v : Int32} (h : gW9 w nx rz) (hk : k < 3) (hx : x < 4) (hz : rz k < 6) : gW9 (upd (upd (upd w (((16 + (13 * k)) + 1) + (2 * rz k)) (nI x)) (((16 + (13 * k)) + 2) + (2 * rz k)) v) (16 + (13 * k)) (nI (rz k + 1))) nx (updN rz k (rz k + 1)) := by
  intro j hj
  obtain ⟨h1, h2, h3, h4, h5⟩ := h j hj
  refine ⟨by rw [pk_un (by omega), pk_un (by omega), pk_un (by omega)]; exact h1, ?_, h3, ?_, fun i hi => ?_⟩
  · by_cases e : j = k
    · subst e; rw [pk_us, updN_s]
    · rw [pk_un (by omega), pk_un (by omega), pk_un (by omega), updN_n e]; exact h2
  · by_cases e : j = k
    · subst e; rw [updN_s]; omega
    · rw [updN_n e]; exact h4
  · by_cases e : j = k
    · subst e
      rw [updN_s] at hi
      by_cases e2 : i = rz j
      · subst e2
        exact ⟨x, hx, by rw [pk_un (by omega), pk_un (by omega), pk_us]⟩
      · obtain ⟨y, a, b⟩ := h5 i (by omega)
        exact ⟨y, a, by rw [pk_un (by omega), pk_un (by omega), pk_un (by omega)]; exact b⟩
    · rw [updN_n e] at hi
      obtain ⟨y, a, b⟩ := h5 i hi
      exact ⟨y, a, by rw [pk_un (by omega), pk_un (by omega), pk_un (by omega)]; exact b⟩
/-- what can be done -/
def gCan9 (C Mn nx rz : Nat → Nat) (pr : Nat) (mode x : Int32) : Prop := (∃ k, k < C pr ∧ k < 3 ∧ x = nI (3 + k) ∧ 0 < rz k ∧ mode = 1) ∨ (∃ k, k < C pr ∧ k < 3 ∧ x = nI k ∧ nx k < Mn ((3 * pr) + k))