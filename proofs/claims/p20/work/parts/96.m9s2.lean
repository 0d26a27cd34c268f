theorem dX9_count_0 : decode cX9_count 0 = .ok (.iload_n 1, 1) := by decide +kernel
theorem dX9_count_1 : decode cX9_count 1 = .ok (.bipush 9, 2) := by decide +kernel
theorem dX9_count_10 : decode cX9_count 10 = .ok (.ireturn, 1) := by decide +kernel
theorem dX9_count_100 : decode cX9_count 100 = .ok (.aload_n 0, 1) := by decide +kernel
theorem dX9_count_101 : decode cX9_count 101 = .ok (.getfield 13, 3) := by decide +kernel
theorem dX9_count_104 : decode cX9_count 104 = .ok (.iconst 2, 1) := by decide +kernel
theorem dX9_count_105 : decode cX9_count 105 = .ok (.iaload, 1) := by decide +kernel
theorem dX9_count_106 : decode cX9_count 106 = .ok (.iadd, 1) := by decide +kernel
theorem dX9_count_107 : decode cX9_count 107 = .ok (.ireturn, 1) := by decide +kernel
theorem dX9_count_108 : decode cX9_count 108 = .ok (.aload_n 0, 1) := by decide +kernel
theorem dX9_count_109 : decode cX9_count 109 = .ok (.iconst 1, 1) := by decide +kernel
theorem dX9_count_11 : decode cX9_count 11 = .ok (.iload_n 1, 1) := by decide +kernel
theorem dX9_count_110 : decode cX9_count 110 = .ok (.invokevirtual 347, 3) := by decide +kernel
theorem dX9_count_113 : decode cX9_count 113 = .ok (.ifCond .eq 12, 3) := by decide +kernel
theorem dX9_count_116 : decode cX9_count 116 = .ok (.aload_n 0, 1) := by decide +kernel
theorem dX9_count_117 : decode cX9_count 117 = .ok (.getfield 59, 3) := by decide +kernel
theorem dX9_count_12 : decode cX9_count 12 = .ok (.ifCond .lt 9, 3) := by decide +kernel
theorem dX9_count_120 : decode cX9_count 120 = .ok (.iconst 1, 1) := by decide +kernel
theorem dX9_count_121 : decode cX9_count 121 = .ok (.iaload, 1) := by decide +kernel
theorem dX9_count_122 : decode cX9_count 122 = .ok (.goto 4, 3) := by decide +kernel
theorem dX9_count_125 : decode cX9_count 125 = .ok (.iconst (-1), 1) := by decide +kernel
theorem dX9_count_126 : decode cX9_count 126 = .ok (.ireturn, 1) := by decide +kernel
theorem dX9_count_127 : decode cX9_count 127 = .ok (.aload_n 0, 1) := by decide +kernel
theorem dX9_count_128 : decode cX9_count 128 = .ok (.iconst 0, 1) := by decide +kernel
theorem dX9_count_129 : decode cX9_count 129 = .ok (.invokevirtual 347, 3) := by decide +kernel
theorem dX9_count_132 : decode cX9_count 132 = .ok (.ifCond .eq 12, 3) := by decide +kernel
theorem dX9_count_135 : decode cX9_count 135 = .ok (.aload_n 0, 1) := by decide +kernel
theorem dX9_count_136 : decode cX9_count 136 = .ok (.getfield 59, 3) := by decide +kernel
theorem dX9_count_139 : decode cX9_count 139 = .ok (.iconst 0, 1) := by decide +kernel
theorem dX9_count_140 : decode cX9_count 140 = .ok (.iaload, 1) := by decide +kernel
theorem dX9_count_141 : decode cX9_count 141 = .ok (.goto 4, 3) := by decide +kernel
theorem dX9_count_144 : decode cX9_count 144 = .ok (.iconst (-1), 1) := by decide +kernel
theorem dX9_count_145 : decode cX9_count 145 = .ok (.ireturn, 1) := by decide +kernel
theorem dX9_count_146 : decode cX9_count 146 = .ok (.aload_n 0, 1) := by decide +kernel
theorem dX9_count_147 : decode cX9_count 147 = .ok (.iconst 1, 1) := by decide +kernel
theorem dX9_count_148 : decode cX9_count 148 = .ok (.invokevirtual 347, 3) := by decide +kernel
theorem dX9_count_15 : decode cX9_count 15 = .ok (.iload_n 1, 1) := by decide +kernel
theorem dX9_count_151 : decode cX9_count 151 = .ok (.ifCond .eq 12, 3) := by decide +kernel
theorem dX9_count_154 : decode cX9_count 154 = .ok (.aload_n 0, 1) := by decide +kernel
theorem dX9_count_155 : decode cX9_count 155 = .ok (.getfield 72, 3) := by decide +kernel
theorem dX9_count_158 : decode cX9_count 158 = .ok (.iconst 1, 1) := by decide +kernel
theorem dX9_count_159 : decode cX9_count 159 = .ok (.iaload, 1) := by decide +kernel
theorem dX9_count_16 : decode cX9_count 16 = .ok (.bipush 9, 2) := by decide +kernel
theorem dX9_count_160 : decode cX9_count 160 = .ok (.goto 4, 3) := by decide +kernel
theorem dX9_count_163 : decode cX9_count 163 = .ok (.iconst (-1), 1) := by decide +kernel
theorem dX9_count_164 : decode cX9_count 164 = .ok (.ireturn, 1) := by decide +kernel
theorem dX9_count_165 : decode cX9_count 165 = .ok (.aload_n 0, 1) := by decide +kernel
theorem dX9_count_166 : decode cX9_count 166 = .ok (.iconst 0, 1) := by decide +kernel
theorem dX9_count_167 : decode cX9_count 167 = .ok (.invokevirtual 347, 3) := by decide +kernel
theorem dX9_count_170 : decode cX9_count 170 = .ok (.ifCond .eq 12, 3) := by decide +kernel
theorem dX9_count_173 : decode cX9_count 173 = .ok (.aload_n 0, 1) := by decide +kernel
theorem dX9_count_174 : decode cX9_count 174 = .ok (.getfield 72, 3) := by decide +kernel
theorem dX9_count_177 : decode cX9_count 177 = .ok (.iconst 0, 1) := by decide +kernel
theorem dX9_count_178 : decode cX9_count 178 = .ok (.iaload, 1) := by decide +kernel
theorem dX9_count_179 : decode cX9_count 179 = .ok (.goto 4, 3) := by decide +kernel
theorem dX9_count_18 : decode cX9_count 18 = .ok (.if_icmp .le 5, 3) := by decide +kernel
theorem dX9_count_182 : decode cX9_count 182 = .ok (.iconst (-1), 1) := by decide +kernel
theorem dX9_count_183 : decode cX9_count 183 = .ok (.ireturn, 1) := by decide +kernel
theorem dX9_count_184 : decode cX9_count 184 = .ok (.aload_n 0, 1) := by decide +kernel
theorem dX9_count_185 : decode cX9_count 185 = .ok (.getfield 84, 3) := by decide +kernel
theorem dX9_count_188 : decode cX9_count 188 = .ok (.ifCond .ge 7, 3) := by decide +kernel
theorem dX9_count_191 : decode cX9_count 191 = .ok (.iconst 0, 1) := by decide +kernel
theorem dX9_count_192 : decode cX9_count 192 = .ok (.goto 7, 3) := by decide +kernel
theorem dX9_count_195 : decode cX9_count 195 = .ok (.aload_n 0, 1) := by decide +kernel
theorem dX9_count_196 : decode cX9_count 196 = .ok (.getfield 227, 3) := by decide +kernel
theorem dX9_count_199 : decode cX9_count 199 = .ok (.ireturn, 1) := by decide +kernel
theorem dX9_count_200 : decode cX9_count 200 = .ok (.aload_n 0, 1) := by decide +kernel
theorem dX9_count_201 : decode cX9_count 201 = .ok (.getfield 84, 3) := by decide +kernel
theorem dX9_count_204 : decode cX9_count 204 = .ok (.ifCond .lt 20, 3) := by decide +kernel
theorem dX9_count_207 : decode cX9_count 207 = .ok (.aload_n 0, 1) := by decide +kernel
theorem dX9_count_208 : decode cX9_count 208 = .ok (.iconst 0, 1) := by decide +kernel
theorem dX9_count_209 : decode cX9_count 209 = .ok (.aload_n 0, 1) := by decide +kernel
theorem dX9_count_21 : decode cX9_count 21 = .ok (.iconst (-1), 1) := by decide +kernel
theorem dX9_count_210 : decode cX9_count 210 = .ok (.getfield 78, 3) := by decide +kernel
theorem dX9_count_213 : decode cX9_count 213 = .ok (.iconst 0, 1) := by decide +kernel
theorem dX9_count_214 : decode cX9_count 214 = .ok (.invokevirtual 317, 3) := by decide +kernel
theorem dX9_count_217 : decode cX9_count 217 = .ok (.ifCond .eq 7, 3) := by decide +kernel
theorem dX9_count_22 : decode cX9_count 22 = .ok (.ireturn, 1) := by decide +kernel
theorem dX9_count_220 : decode cX9_count 220 = .ok (.iconst 1, 1) := by decide +kernel
theorem dX9_count_221 : decode cX9_count 221 = .ok (.goto 4, 3) := by decide +kernel
theorem dX9_count_224 : decode cX9_count 224 = .ok (.iconst 0, 1) := by decide +kernel
theorem dX9_count_225 : decode cX9_count 225 = .ok (.ireturn, 1) := by decide +kernel
theorem dX9_count_226 : decode cX9_count 226 = .ok (.aload_n 0, 1) := by decide +kernel
theorem dX9_count_227 : decode cX9_count 227 = .ok (.invokevirtual 393, 3) := by decide +kernel
theorem dX9_count_23 : decode cX9_count 23 = .ok (.aload_n 0, 1) := by decide +kernel
theorem dX9_count_230 : decode cX9_count 230 = .ok (.aload_n 0, 1) := by decide +kernel
theorem dX9_count_231 : decode cX9_count 231 = .ok (.getfield 381, 3) := by decide +kernel
theorem dX9_count_234 : decode cX9_count 234 = .ok (.ireturn, 1) := by decide +kernel
theorem dX9_count_24 : decode cX9_count 24 = .ok (.getfield 224, 3) := by decide +kernel
theorem dX9_count_27 : decode cX9_count 27 = .ok (.ifCond .ne 5, 3) := by decide +kernel
theorem dX9_count_3 : decode cX9_count 3 = .ok (.if_icmp .ne 8, 3) := by decide +kernel
theorem dX9_count_30 : decode cX9_count 30 = .ok (.iconst 0, 1) := by decide +kernel
theorem dX9_count_31 : decode cX9_count 31 = .ok (.ireturn, 1) := by decide +kernel
theorem dX9_count_32 : decode cX9_count 32 = .ok (.iload_n 1, 1) := by decide +kernel
theorem dX9_count_33 : decode cX9_count 33 = .ok (.tableswitch 193 0 7 #[47, 54, 75, 94, 113, 132, 151, 167], 47) := by decide +kernel
theorem dX9_count_6 : decode cX9_count 6 = .ok (.aload_n 0, 1) := by decide +kernel
theorem dX9_count_7 : decode cX9_count 7 = .ok (.getfield 116, 3) := by decide +kernel
theorem dX9_count_80 : decode cX9_count 80 = .ok (.aload_n 0, 1) := by decide +kernel
theorem dX9_count_81 : decode cX9_count 81 = .ok (.getfield 7, 3) := by decide +kernel
theorem dX9_count_84 : decode cX9_count 84 = .ok (.iconst 0, 1) := by decide +kernel
theorem dX9_count_85 : decode cX9_count 85 = .ok (.iaload, 1) := by decide +kernel
theorem dX9_count_86 : decode cX9_count 86 = .ok (.ireturn, 1) := by decide +kernel
theorem dX9_count_87 : decode cX9_count 87 = .ok (.aload_n 0, 1) := by decide +kernel
theorem dX9_count_88 : decode cX9_count 88 = .ok (.getfield 13, 3) := by decide +kernel
theorem dX9_count_91 : decode cX9_count 91 = .ok (.iconst 0, 1) := by decide +kernel
theorem dX9_count_92 : decode cX9_count 92 = .ok (.iaload, 1) := by decide +kernel
theorem dX9_count_93 : decode cX9_count 93 = .ok (.aload_n 0, 1) := by decide +kernel
theorem dX9_count_94 : decode cX9_count 94 = .ok (.getfield 13, 3) := by decide +kernel
theorem dX9_count_97 : decode cX9_count 97 = .ok (.iconst 1, 1) := by decide +kernel
theorem dX9_count_98 : decode cX9_count 98 = .ok (.iaload, 1) := by decide +kernel
theorem dX9_count_99 : decode cX9_count 99 = .ok (.iadd, 1) := by decide +kernel