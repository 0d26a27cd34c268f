theorem dX0_lookAtSize_0 : decode cX0_lookAtSize 0 = .ok (.aload_n 1, 1) := by decide +kernel
theorem dX0_lookAtSize_1 : decode cX0_lookAtSize 1 = .ok (.invokevirtual 51, 3) := by decide +kernel
theorem dX0_lookAtSize_107 : decode cX0_lookAtSize 107 = .ok (.iconst (-1), 1) := by decide +kernel
theorem dX0_lookAtSize_108 : decode cX0_lookAtSize 108 = .ok (.iastore, 1) := by decide +kernel
theorem dX0_lookAtSize_109 : decode cX0_lookAtSize 109 = .ok (.aload_n 0, 1) := by decide +kernel
theorem dX0_lookAtSize_110 : decode cX0_lookAtSize 110 = .ok (.getfield 12, 3) := by decide +kernel
theorem dX0_lookAtSize_113 : decode cX0_lookAtSize 113 = .ok (.aload_n 1, 1) := by decide +kernel
theorem dX0_lookAtSize_114 : decode cX0_lookAtSize 114 = .ok (.aload_n 0, 1) := by decide +kernel
theorem dX0_lookAtSize_115 : decode cX0_lookAtSize 115 = .ok (.getfield 22, 3) := by decide +kernel
theorem dX0_lookAtSize_118 : decode cX0_lookAtSize 118 = .ok (.iconst 0, 1) := by decide +kernel
theorem dX0_lookAtSize_119 : decode cX0_lookAtSize 119 = .ok (.iaload, 1) := by decide +kernel
theorem dX0_lookAtSize_120 : decode cX0_lookAtSize 120 = .ok (.aload_n 0, 1) := by decide +kernel
theorem dX0_lookAtSize_121 : decode cX0_lookAtSize 121 = .ok (.getfield 22, 3) := by decide +kernel
theorem dX0_lookAtSize_124 : decode cX0_lookAtSize 124 = .ok (.iconst 1, 1) := by decide +kernel
theorem dX0_lookAtSize_125 : decode cX0_lookAtSize 125 = .ok (.iaload, 1) := by decide +kernel
theorem dX0_lookAtSize_126 : decode cX0_lookAtSize 126 = .ok (.invokevirtual 59, 3) := by decide +kernel
theorem dX0_lookAtSize_129 : decode cX0_lookAtSize 129 = .ok (.aload_n 3, 1) := by decide +kernel
theorem dX0_lookAtSize_130 : decode cX0_lookAtSize 130 = .ok (.aload_n 0, 1) := by decide +kernel
theorem dX0_lookAtSize_131 : decode cX0_lookAtSize 131 = .ok (.getfield 12, 3) := by decide +kernel
theorem dX0_lookAtSize_134 : decode cX0_lookAtSize 134 = .ok (.iconst 1, 1) := by decide +kernel
theorem dX0_lookAtSize_135 : decode cX0_lookAtSize 135 = .ok (.invokevirtual 63, 3) := by decide +kernel
theorem dX0_lookAtSize_138 : decode cX0_lookAtSize 138 = .ok (.ifCond .ne 6, 3) := by decide +kernel
theorem dX0_lookAtSize_141 : decode cX0_lookAtSize 141 = .ok (.bipush (-2), 2) := by decide +kernel
theorem dX0_lookAtSize_143 : decode cX0_lookAtSize 143 = .ok (.ireturn, 1) := by decide +kernel
theorem dX0_lookAtSize_144 : decode cX0_lookAtSize 144 = .ok (.aload_n 2, 1) := by decide +kernel
theorem dX0_lookAtSize_145 : decode cX0_lookAtSize 145 = .ok (.aload_n 3, 1) := by decide +kernel
theorem dX0_lookAtSize_146 : decode cX0_lookAtSize 146 = .ok (.invokevirtual 69, 3) := by decide +kernel
theorem dX0_lookAtSize_149 : decode cX0_lookAtSize 149 = .ok (.ifCond .eq 6, 3) := by decide +kernel
theorem dX0_lookAtSize_152 : decode cX0_lookAtSize 152 = .ok (.iload 4, 2) := by decide +kernel
theorem dX0_lookAtSize_154 : decode cX0_lookAtSize 154 = .ok (.ireturn, 1) := by decide +kernel
theorem dX0_lookAtSize_155 : decode cX0_lookAtSize 155 = .ok (.iinc 9 1, 3) := by decide +kernel
theorem dX0_lookAtSize_158 : decode cX0_lookAtSize 158 = .ok (.goto (-99), 3) := by decide +kernel
theorem dX0_lookAtSize_16 : decode cX0_lookAtSize 16 = .ok (.iconst 1, 1) := by decide +kernel
theorem dX0_lookAtSize_161 : decode cX0_lookAtSize 161 = .ok (.iinc 8 1, 3) := by decide +kernel
theorem dX0_lookAtSize_164 : decode cX0_lookAtSize 164 = .ok (.goto (-128), 3) := by decide +kernel
theorem dX0_lookAtSize_167 : decode cX0_lookAtSize 167 = .ok (.iconst (-1), 1) := by decide +kernel
theorem dX0_lookAtSize_168 : decode cX0_lookAtSize 168 = .ok (.ireturn, 1) := by decide +kernel
theorem dX0_lookAtSize_17 : decode cX0_lookAtSize 17 = .ok (.istore 6, 2) := by decide +kernel
theorem dX0_lookAtSize_19 : decode cX0_lookAtSize 19 = .ok (.iload 4, 2) := by decide +kernel
theorem dX0_lookAtSize_21 : decode cX0_lookAtSize 21 = .ok (.iconst 1, 1) := by decide +kernel
theorem dX0_lookAtSize_22 : decode cX0_lookAtSize 22 = .ok (.if_icmp .le 8, 3) := by decide +kernel
theorem dX0_lookAtSize_30 : decode cX0_lookAtSize 30 = .ok (.iconst 1, 1) := by decide +kernel
theorem dX0_lookAtSize_31 : decode cX0_lookAtSize 31 = .ok (.istore 7, 2) := by decide +kernel
theorem dX0_lookAtSize_33 : decode cX0_lookAtSize 33 = .ok (.iconst 0, 1) := by decide +kernel
theorem dX0_lookAtSize_34 : decode cX0_lookAtSize 34 = .ok (.istore 8, 2) := by decide +kernel
theorem dX0_lookAtSize_36 : decode cX0_lookAtSize 36 = .ok (.iload 8, 2) := by decide +kernel
theorem dX0_lookAtSize_38 : decode cX0_lookAtSize 38 = .ok (.iload 6, 2) := by decide +kernel
theorem dX0_lookAtSize_4 : decode cX0_lookAtSize 4 = .ok (.istore 5, 2) := by decide +kernel
theorem dX0_lookAtSize_40 : decode cX0_lookAtSize 40 = .ok (.if_icmp .ge 127, 3) := by decide +kernel
theorem dX0_lookAtSize_43 : decode cX0_lookAtSize 43 = .ok (.iload 4, 2) := by decide +kernel
theorem dX0_lookAtSize_45 : decode cX0_lookAtSize 45 = .ok (.iconst 1, 1) := by decide +kernel
theorem dX0_lookAtSize_46 : decode cX0_lookAtSize 46 = .ok (.if_icmp .le 10, 3) := by decide +kernel
theorem dX0_lookAtSize_56 : decode cX0_lookAtSize 56 = .ok (.iconst 0, 1) := by decide +kernel
theorem dX0_lookAtSize_57 : decode cX0_lookAtSize 57 = .ok (.istore 9, 2) := by decide +kernel
theorem dX0_lookAtSize_59 : decode cX0_lookAtSize 59 = .ok (.iload 9, 2) := by decide +kernel
theorem dX0_lookAtSize_6 : decode cX0_lookAtSize 6 = .ok (.iload 4, 2) := by decide +kernel
theorem dX0_lookAtSize_61 : decode cX0_lookAtSize 61 = .ok (.iload 7, 2) := by decide +kernel
theorem dX0_lookAtSize_63 : decode cX0_lookAtSize 63 = .ok (.if_icmp .ge 98, 3) := by decide +kernel
theorem dX0_lookAtSize_66 : decode cX0_lookAtSize 66 = .ok (.aload_n 0, 1) := by decide +kernel
theorem dX0_lookAtSize_67 : decode cX0_lookAtSize 67 = .ok (.getfield 22, 3) := by decide +kernel
theorem dX0_lookAtSize_70 : decode cX0_lookAtSize 70 = .ok (.iconst 0, 1) := by decide +kernel
theorem dX0_lookAtSize_71 : decode cX0_lookAtSize 71 = .ok (.iload 4, 2) := by decide +kernel
theorem dX0_lookAtSize_73 : decode cX0_lookAtSize 73 = .ok (.ifCond .le 12, 3) := by decide +kernel
theorem dX0_lookAtSize_8 : decode cX0_lookAtSize 8 = .ok (.ifCond .le 8, 3) := by decide +kernel
theorem dX0_lookAtSize_85 : decode cX0_lookAtSize 85 = .ok (.iconst (-1), 1) := by decide +kernel
theorem dX0_lookAtSize_86 : decode cX0_lookAtSize 86 = .ok (.iastore, 1) := by decide +kernel
theorem dX0_lookAtSize_87 : decode cX0_lookAtSize 87 = .ok (.aload_n 0, 1) := by decide +kernel
theorem dX0_lookAtSize_88 : decode cX0_lookAtSize 88 = .ok (.getfield 22, 3) := by decide +kernel
theorem dX0_lookAtSize_91 : decode cX0_lookAtSize 91 = .ok (.iconst 1, 1) := by decide +kernel
theorem dX0_lookAtSize_92 : decode cX0_lookAtSize 92 = .ok (.iload 4, 2) := by decide +kernel
theorem dX0_lookAtSize_94 : decode cX0_lookAtSize 94 = .ok (.iconst 1, 1) := by decide +kernel
theorem dX0_lookAtSize_95 : decode cX0_lookAtSize 95 = .ok (.if_icmp .le 12, 3) := by decide +kernel
theorem gW_c_placesInAll : wsP_c_placesInAll.all goodWord = true := by decide +kernel