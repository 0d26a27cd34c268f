theorem dX9_read_0 : decode cX9_read 0 = .ok (.aload_n 0, 1) := by decide +kernel
theorem dX9_read_1 : decode cX9_read 1 = .ok (.iconst 0, 1) := by decide +kernel
theorem dX9_read_10 : decode cX9_read 10 = .ok (.aload_n 0, 1) := by decide +kernel
theorem dX9_read_100 : decode cX9_read 100 = .ok (.iload_n 2, 1) := by decide +kernel
theorem dX9_read_101 : decode cX9_read 101 = .ok (.iconst 4, 1) := by decide +kernel
theorem dX9_read_102 : decode cX9_read 102 = .ok (.if_icmp .ge 23, 3) := by decide +kernel
theorem dX9_read_105 : decode cX9_read 105 = .ok (.aload_n 0, 1) := by decide +kernel
theorem dX9_read_106 : decode cX9_read 106 = .ok (.getfield 40, 3) := by decide +kernel
theorem dX9_read_109 : decode cX9_read 109 = .ok (.iload_n 2, 1) := by decide +kernel
theorem dX9_read_11 : decode cX9_read 11 = .ok (.iconst 0, 1) := by decide +kernel
theorem dX9_read_110 : decode cX9_read 110 = .ok (.aload_n 0, 1) := by decide +kernel
theorem dX9_read_111 : decode cX9_read 111 = .ok (.getfield 40, 3) := by decide +kernel
theorem dX9_read_114 : decode cX9_read 114 = .ok (.iconst 4, 1) := by decide +kernel
theorem dX9_read_115 : decode cX9_read 115 = .ok (.iload_n 2, 1) := by decide +kernel
theorem dX9_read_116 : decode cX9_read 116 = .ok (.iadd, 1) := by decide +kernel
theorem dX9_read_117 : decode cX9_read 117 = .ok (.iaload, 1) := by decide +kernel
theorem dX9_read_118 : decode cX9_read 118 = .ok (.iastore, 1) := by decide +kernel
theorem dX9_read_119 : decode cX9_read 119 = .ok (.iinc 2 1, 3) := by decide +kernel
theorem dX9_read_12 : decode cX9_read 12 = .ok (.putfield 150, 3) := by decide +kernel
theorem dX9_read_122 : decode cX9_read 122 = .ok (.goto (-22), 3) := by decide +kernel
theorem dX9_read_125 : decode cX9_read 125 = .ok (.aload_n 0, 1) := by decide +kernel
theorem dX9_read_126 : decode cX9_read 126 = .ok (.iconst 1, 1) := by decide +kernel
theorem dX9_read_127 : decode cX9_read 127 = .ok (.putfield 224, 3) := by decide +kernel
theorem dX9_read_130 : decode cX9_read 130 = .ok (.aload_n 0, 1) := by decide +kernel
theorem dX9_read_131 : decode cX9_read 131 = .ok (.iconst (-1), 1) := by decide +kernel
theorem dX9_read_132 : decode cX9_read 132 = .ok (.putfield 84, 3) := by decide +kernel
theorem dX9_read_135 : decode cX9_read 135 = .ok (.aload_n 0, 1) := by decide +kernel
theorem dX9_read_136 : decode cX9_read 136 = .ok (.iconst 0, 1) := by decide +kernel
theorem dX9_read_137 : decode cX9_read 137 = .ok (.putfield 227, 3) := by decide +kernel
theorem dX9_read_140 : decode cX9_read 140 = .ok (.iconst 0, 1) := by decide +kernel
theorem dX9_read_141 : decode cX9_read 141 = .ok (.istore_n 2, 1) := by decide +kernel
theorem dX9_read_142 : decode cX9_read 142 = .ok (.iload_n 2, 1) := by decide +kernel
theorem dX9_read_143 : decode cX9_read 143 = .ok (.iconst 3, 1) := by decide +kernel
theorem dX9_read_144 : decode cX9_read 144 = .ok (.if_icmp .ge 16, 3) := by decide +kernel
theorem dX9_read_147 : decode cX9_read 147 = .ok (.aload_n 0, 1) := by decide +kernel
theorem dX9_read_148 : decode cX9_read 148 = .ok (.getfield 66, 3) := by decide +kernel
theorem dX9_read_15 : decode cX9_read 15 = .ok (.aload_n 0, 1) := by decide +kernel
theorem dX9_read_151 : decode cX9_read 151 = .ok (.iload_n 2, 1) := by decide +kernel
theorem dX9_read_152 : decode cX9_read 152 = .ok (.iconst 0, 1) := by decide +kernel
theorem dX9_read_153 : decode cX9_read 153 = .ok (.bastore, 1) := by decide +kernel
theorem dX9_read_154 : decode cX9_read 154 = .ok (.iinc 2 1, 3) := by decide +kernel
theorem dX9_read_157 : decode cX9_read 157 = .ok (.goto (-15), 3) := by decide +kernel
theorem dX9_read_16 : decode cX9_read 16 = .ok (.iconst 0, 1) := by decide +kernel
theorem dX9_read_160 : decode cX9_read 160 = .ok (.aload_n 0, 1) := by decide +kernel
theorem dX9_read_161 : decode cX9_read 161 = .ok (.iconst (-1), 1) := by decide +kernel
theorem dX9_read_162 : decode cX9_read 162 = .ok (.putfield 98, 3) := by decide +kernel
theorem dX9_read_165 : decode cX9_read 165 = .ok (.aload_n 0, 1) := by decide +kernel
theorem dX9_read_166 : decode cX9_read 166 = .ok (.iconst (-1), 1) := by decide +kernel
theorem dX9_read_167 : decode cX9_read 167 = .ok (.putfield 104, 3) := by decide +kernel
theorem dX9_read_17 : decode cX9_read 17 = .ok (.putfield 127, 3) := by decide +kernel
theorem dX9_read_170 : decode cX9_read 170 = .ok (.iconst 0, 1) := by decide +kernel
theorem dX9_read_171 : decode cX9_read 171 = .ok (.ireturn, 1) := by decide +kernel
theorem dX9_read_2 : decode cX9_read 2 = .ok (.putfield 147, 3) := by decide +kernel
theorem dX9_read_20 : decode cX9_read 20 = .ok (.aload_n 0, 1) := by decide +kernel
theorem dX9_read_21 : decode cX9_read 21 = .ok (.iconst 1, 1) := by decide +kernel
theorem dX9_read_22 : decode cX9_read 22 = .ok (.putfield 154, 3) := by decide +kernel
theorem dX9_read_25 : decode cX9_read 25 = .ok (.aload_n 0, 1) := by decide +kernel
theorem dX9_read_26 : decode cX9_read 26 = .ok (.invokevirtual 161, 3) := by decide +kernel
theorem dX9_read_29 : decode cX9_read 29 = .ok (.aload_n 0, 1) := by decide +kernel
theorem dX9_read_30 : decode cX9_read 30 = .ok (.getfield 7, 3) := by decide +kernel
theorem dX9_read_33 : decode cX9_read 33 = .ok (.iconst 1, 1) := by decide +kernel
theorem dX9_read_34 : decode cX9_read 34 = .ok (.iconst 0, 1) := by decide +kernel
theorem dX9_read_35 : decode cX9_read 35 = .ok (.iastore, 1) := by decide +kernel
theorem dX9_read_36 : decode cX9_read 36 = .ok (.iconst 0, 1) := by decide +kernel
theorem dX9_read_37 : decode cX9_read 37 = .ok (.istore_n 1, 1) := by decide +kernel
theorem dX9_read_38 : decode cX9_read 38 = .ok (.iload_n 1, 1) := by decide +kernel
theorem dX9_read_39 : decode cX9_read 39 = .ok (.iconst 4, 1) := by decide +kernel
theorem dX9_read_40 : decode cX9_read 40 = .ok (.if_icmp .ge 18, 3) := by decide +kernel
theorem dX9_read_43 : decode cX9_read 43 = .ok (.aload_n 0, 1) := by decide +kernel
theorem dX9_read_44 : decode cX9_read 44 = .ok (.getfield 40, 3) := by decide +kernel
theorem dX9_read_47 : decode cX9_read 47 = .ok (.iconst 4, 1) := by decide +kernel
theorem dX9_read_48 : decode cX9_read 48 = .ok (.iload_n 1, 1) := by decide +kernel
theorem dX9_read_49 : decode cX9_read 49 = .ok (.iadd, 1) := by decide +kernel
theorem dX9_read_5 : decode cX9_read 5 = .ok (.aload_n 0, 1) := by decide +kernel
theorem dX9_read_50 : decode cX9_read 50 = .ok (.iconst 0, 1) := by decide +kernel
theorem dX9_read_51 : decode cX9_read 51 = .ok (.iastore, 1) := by decide +kernel
theorem dX9_read_52 : decode cX9_read 52 = .ok (.iinc 1 1, 3) := by decide +kernel
theorem dX9_read_55 : decode cX9_read 55 = .ok (.goto (-17), 3) := by decide +kernel
theorem dX9_read_58 : decode cX9_read 58 = .ok (.aload_n 0, 1) := by decide +kernel
theorem dX9_read_59 : decode cX9_read 59 = .ok (.invokevirtual 217, 3) := by decide +kernel
theorem dX9_read_6 : decode cX9_read 6 = .ok (.iconst (-1), 1) := by decide +kernel
theorem dX9_read_62 : decode cX9_read 62 = .ok (.ifCond .eq 14, 3) := by decide +kernel
theorem dX9_read_65 : decode cX9_read 65 = .ok (.aload_n 0, 1) := by decide +kernel
theorem dX9_read_66 : decode cX9_read 66 = .ok (.getfield 147, 3) := by decide +kernel
theorem dX9_read_69 : decode cX9_read 69 = .ok (.ifCond .ne 7, 3) := by decide +kernel
theorem dX9_read_7 : decode cX9_read 7 = .ok (.putfield 92, 3) := by decide +kernel
theorem dX9_read_72 : decode cX9_read 72 = .ok (.iconst 1, 1) := by decide +kernel
theorem dX9_read_73 : decode cX9_read 73 = .ok (.goto 4, 3) := by decide +kernel
theorem dX9_read_76 : decode cX9_read 76 = .ok (.iconst 0, 1) := by decide +kernel
theorem dX9_read_77 : decode cX9_read 77 = .ok (.istore_n 1, 1) := by decide +kernel
theorem dX9_read_78 : decode cX9_read 78 = .ok (.aload_n 0, 1) := by decide +kernel
theorem dX9_read_79 : decode cX9_read 79 = .ok (.iconst 0, 1) := by decide +kernel
theorem dX9_read_80 : decode cX9_read 80 = .ok (.putfield 116, 3) := by decide +kernel
theorem dX9_read_83 : decode cX9_read 83 = .ok (.iload_n 1, 1) := by decide +kernel
theorem dX9_read_84 : decode cX9_read 84 = .ok (.ifCond .ne 8, 3) := by decide +kernel
theorem dX9_read_87 : decode cX9_read 87 = .ok (.aload_n 0, 1) := by decide +kernel
theorem dX9_read_88 : decode cX9_read 88 = .ok (.getfield 147, 3) := by decide +kernel
theorem dX9_read_91 : decode cX9_read 91 = .ok (.ireturn, 1) := by decide +kernel
theorem dX9_read_92 : decode cX9_read 92 = .ok (.aload_n 0, 1) := by decide +kernel
theorem dX9_read_93 : decode cX9_read 93 = .ok (.iconst 1, 1) := by decide +kernel
theorem dX9_read_94 : decode cX9_read 94 = .ok (.iconst 0, 1) := by decide +kernel
theorem dX9_read_95 : decode cX9_read 95 = .ok (.invokevirtual 220, 3) := by decide +kernel
theorem dX9_read_98 : decode cX9_read 98 = .ok (.iconst 0, 1) := by decide +kernel
theorem dX9_read_99 : decode cX9_read 99 = .ok (.istore_n 2, 1) := by decide +kernel