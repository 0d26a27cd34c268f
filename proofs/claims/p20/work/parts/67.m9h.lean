theorem dX9_instruction_0 : decode cX9_instruction 0 = .ok (.aload_n 0, 1) := by decide +kernel
theorem dX9_instruction_1 : decode cX9_instruction 1 = .ok (.getfield 16, 3) := by decide +kernel
theorem dX9_instruction_10 : decode cX9_instruction 10 = .ok (.iload_n 2, 1) := by decide +kernel
theorem dX9_instruction_100 : decode cX9_instruction 100 = .ok (.ifCond .eq 7, 3) := by decide +kernel
theorem dX9_instruction_103 : decode cX9_instruction 103 = .ok (.iconst 1, 1) := by decide +kernel
theorem dX9_instruction_104 : decode cX9_instruction 104 = .ok (.goto 4, 3) := by decide +kernel
theorem dX9_instruction_107 : decode cX9_instruction 107 = .ok (.iconst 0, 1) := by decide +kernel
theorem dX9_instruction_108 : decode cX9_instruction 108 = .ok (.ireturn, 1) := by decide +kernel
theorem dX9_instruction_109 : decode cX9_instruction 109 = .ok (.iload_n 2, 1) := by decide +kernel
theorem dX9_instruction_11 : decode cX9_instruction 11 = .ok (.iconst 4, 1) := by decide +kernel
theorem dX9_instruction_110 : decode cX9_instruction 110 = .ok (.bipush 7, 2) := by decide +kernel
theorem dX9_instruction_112 : decode cX9_instruction 112 = .ok (.if_icmp .ne 32, 3) := by decide +kernel
theorem dX9_instruction_115 : decode cX9_instruction 115 = .ok (.aload_n 0, 1) := by decide +kernel
theorem dX9_instruction_116 : decode cX9_instruction 116 = .ok (.invokevirtual 232, 3) := by decide +kernel
theorem dX9_instruction_119 : decode cX9_instruction 119 = .ok (.ifCond .eq 23, 3) := by decide +kernel
theorem dX9_instruction_12 : decode cX9_instruction 12 = .ok (.if_icmp .ne 5, 3) := by decide +kernel
theorem dX9_instruction_122 : decode cX9_instruction 122 = .ok (.aload_n 0, 1) := by decide +kernel
theorem dX9_instruction_123 : decode cX9_instruction 123 = .ok (.iconst 0, 1) := by decide +kernel
theorem dX9_instruction_124 : decode cX9_instruction 124 = .ok (.invokevirtual 255, 3) := by decide +kernel
theorem dX9_instruction_127 : decode cX9_instruction 127 = .ok (.ifCond .eq 15, 3) := by decide +kernel
theorem dX9_instruction_130 : decode cX9_instruction 130 = .ok (.aload_n 0, 1) := by decide +kernel
theorem dX9_instruction_131 : decode cX9_instruction 131 = .ok (.iconst 1, 1) := by decide +kernel
theorem dX9_instruction_132 : decode cX9_instruction 132 = .ok (.invokevirtual 255, 3) := by decide +kernel
theorem dX9_instruction_135 : decode cX9_instruction 135 = .ok (.ifCond .eq 7, 3) := by decide +kernel
theorem dX9_instruction_138 : decode cX9_instruction 138 = .ok (.iconst 1, 1) := by decide +kernel
theorem dX9_instruction_139 : decode cX9_instruction 139 = .ok (.goto 4, 3) := by decide +kernel
theorem dX9_instruction_142 : decode cX9_instruction 142 = .ok (.iconst 0, 1) := by decide +kernel
theorem dX9_instruction_143 : decode cX9_instruction 143 = .ok (.ireturn, 1) := by decide +kernel
theorem dX9_instruction_144 : decode cX9_instruction 144 = .ok (.aload_n 0, 1) := by decide +kernel
theorem dX9_instruction_145 : decode cX9_instruction 145 = .ok (.ldc2_w 262, 3) := by decide +kernel
theorem dX9_instruction_148 : decode cX9_instruction 148 = .ok (.invokevirtual 252, 3) := by decide +kernel
theorem dX9_instruction_15 : decode cX9_instruction 15 = .ok (.iconst 1, 1) := by decide +kernel
theorem dX9_instruction_151 : decode cX9_instruction 151 = .ok (.ifCond .eq 10, 3) := by decide +kernel
theorem dX9_instruction_154 : decode cX9_instruction 154 = .ok (.aload_n 0, 1) := by decide +kernel
theorem dX9_instruction_155 : decode cX9_instruction 155 = .ok (.invokevirtual 180, 3) := by decide +kernel
theorem dX9_instruction_158 : decode cX9_instruction 158 = .ok (.ifCond .ne 5, 3) := by decide +kernel
theorem dX9_instruction_16 : decode cX9_instruction 16 = .ok (.ireturn, 1) := by decide +kernel
theorem dX9_instruction_161 : decode cX9_instruction 161 = .ok (.iconst 0, 1) := by decide +kernel
theorem dX9_instruction_162 : decode cX9_instruction 162 = .ok (.ireturn, 1) := by decide +kernel
theorem dX9_instruction_163 : decode cX9_instruction 163 = .ok (.aload_n 0, 1) := by decide +kernel
theorem dX9_instruction_164 : decode cX9_instruction 164 = .ok (.getfield 37, 3) := by decide +kernel
theorem dX9_instruction_167 : decode cX9_instruction 167 = .ok (.aload_n 0, 1) := by decide +kernel
theorem dX9_instruction_168 : decode cX9_instruction 168 = .ok (.getfield 186, 3) := by decide +kernel
theorem dX9_instruction_17 : decode cX9_instruction 17 = .ok (.iload_n 2, 1) := by decide +kernel
theorem dX9_instruction_171 : decode cX9_instruction 171 = .ok (.aload_n 0, 1) := by decide +kernel
theorem dX9_instruction_172 : decode cX9_instruction 172 = .ok (.getfield 175, 3) := by decide +kernel
theorem dX9_instruction_175 : decode cX9_instruction 175 = .ok (.iastore, 1) := by decide +kernel
theorem dX9_instruction_176 : decode cX9_instruction 176 = .ok (.aload_n 0, 1) := by decide +kernel
theorem dX9_instruction_177 : decode cX9_instruction 177 = .ok (.getfield 95, 3) := by decide +kernel
theorem dX9_instruction_18 : decode cX9_instruction 18 = .ok (.iconst 1, 1) := by decide +kernel
theorem dX9_instruction_180 : decode cX9_instruction 180 = .ok (.iload_n 1, 1) := by decide +kernel
theorem dX9_instruction_181 : decode cX9_instruction 181 = .ok (.aload_n 0, 1) := by decide +kernel
theorem dX9_instruction_182 : decode cX9_instruction 182 = .ok (.getfield 172, 3) := by decide +kernel
theorem dX9_instruction_185 : decode cX9_instruction 185 = .ok (.iastore, 1) := by decide +kernel
theorem dX9_instruction_186 : decode cX9_instruction 186 = .ok (.iconst 1, 1) := by decide +kernel
theorem dX9_instruction_187 : decode cX9_instruction 187 = .ok (.ireturn, 1) := by decide +kernel
theorem dX9_instruction_19 : decode cX9_instruction 19 = .ok (.if_icmp .ne 24, 3) := by decide +kernel
theorem dX9_instruction_22 : decode cX9_instruction 22 = .ok (.aload_n 0, 1) := by decide +kernel
theorem dX9_instruction_23 : decode cX9_instruction 23 = .ok (.invokevirtual 232, 3) := by decide +kernel
theorem dX9_instruction_26 : decode cX9_instruction 26 = .ok (.ifCond .eq 15, 3) := by decide +kernel
theorem dX9_instruction_29 : decode cX9_instruction 29 = .ok (.aload_n 0, 1) := by decide +kernel
theorem dX9_instruction_30 : decode cX9_instruction 30 = .ok (.iconst 0, 1) := by decide +kernel
theorem dX9_instruction_31 : decode cX9_instruction 31 = .ok (.invokevirtual 255, 3) := by decide +kernel
theorem dX9_instruction_34 : decode cX9_instruction 34 = .ok (.ifCond .eq 7, 3) := by decide +kernel
theorem dX9_instruction_37 : decode cX9_instruction 37 = .ok (.iconst 1, 1) := by decide +kernel
theorem dX9_instruction_38 : decode cX9_instruction 38 = .ok (.goto 4, 3) := by decide +kernel
theorem dX9_instruction_4 : decode cX9_instruction 4 = .ok (.aload_n 0, 1) := by decide +kernel
theorem dX9_instruction_41 : decode cX9_instruction 41 = .ok (.iconst 0, 1) := by decide +kernel
theorem dX9_instruction_42 : decode cX9_instruction 42 = .ok (.ireturn, 1) := by decide +kernel
theorem dX9_instruction_43 : decode cX9_instruction 43 = .ok (.aload_n 0, 1) := by decide +kernel
theorem dX9_instruction_44 : decode cX9_instruction 44 = .ok (.invokevirtual 259, 3) := by decide +kernel
theorem dX9_instruction_47 : decode cX9_instruction 47 = .ok (.ifCond .ne 5, 3) := by decide +kernel
theorem dX9_instruction_5 : decode cX9_instruction 5 = .ok (.getfield 186, 3) := by decide +kernel
theorem dX9_instruction_50 : decode cX9_instruction 50 = .ok (.iconst 0, 1) := by decide +kernel
theorem dX9_instruction_51 : decode cX9_instruction 51 = .ok (.ireturn, 1) := by decide +kernel
theorem dX9_instruction_52 : decode cX9_instruction 52 = .ok (.iload_n 2, 1) := by decide +kernel
theorem dX9_instruction_53 : decode cX9_instruction 53 = .ok (.ifCond .eq 8, 3) := by decide +kernel
theorem dX9_instruction_56 : decode cX9_instruction 56 = .ok (.iload_n 2, 1) := by decide +kernel
theorem dX9_instruction_57 : decode cX9_instruction 57 = .ok (.iconst 5, 1) := by decide +kernel
theorem dX9_instruction_58 : decode cX9_instruction 58 = .ok (.if_icmp .ne 8, 3) := by decide +kernel
theorem dX9_instruction_61 : decode cX9_instruction 61 = .ok (.aload_n 0, 1) := by decide +kernel
theorem dX9_instruction_62 : decode cX9_instruction 62 = .ok (.invokevirtual 232, 3) := by decide +kernel
theorem dX9_instruction_65 : decode cX9_instruction 65 = .ok (.ireturn, 1) := by decide +kernel
theorem dX9_instruction_66 : decode cX9_instruction 66 = .ok (.iload_n 2, 1) := by decide +kernel
theorem dX9_instruction_67 : decode cX9_instruction 67 = .ok (.iconst 2, 1) := by decide +kernel
theorem dX9_instruction_68 : decode cX9_instruction 68 = .ok (.if_icmp .eq 8, 3) := by decide +kernel
theorem dX9_instruction_71 : decode cX9_instruction 71 = .ok (.iload_n 2, 1) := by decide +kernel
theorem dX9_instruction_72 : decode cX9_instruction 72 = .ok (.iconst 3, 1) := by decide +kernel
theorem dX9_instruction_73 : decode cX9_instruction 73 = .ok (.if_icmp .ne 9, 3) := by decide +kernel
theorem dX9_instruction_76 : decode cX9_instruction 76 = .ok (.aload_n 0, 1) := by decide +kernel
theorem dX9_instruction_77 : decode cX9_instruction 77 = .ok (.iconst 0, 1) := by decide +kernel
theorem dX9_instruction_78 : decode cX9_instruction 78 = .ok (.invokevirtual 255, 3) := by decide +kernel
theorem dX9_instruction_8 : decode cX9_instruction 8 = .ok (.iaload, 1) := by decide +kernel
theorem dX9_instruction_81 : decode cX9_instruction 81 = .ok (.ireturn, 1) := by decide +kernel
theorem dX9_instruction_82 : decode cX9_instruction 82 = .ok (.iload_n 2, 1) := by decide +kernel
theorem dX9_instruction_83 : decode cX9_instruction 83 = .ok (.bipush 6, 2) := by decide +kernel
theorem dX9_instruction_85 : decode cX9_instruction 85 = .ok (.if_icmp .ne 24, 3) := by decide +kernel
theorem dX9_instruction_88 : decode cX9_instruction 88 = .ok (.aload_n 0, 1) := by decide +kernel
theorem dX9_instruction_89 : decode cX9_instruction 89 = .ok (.invokevirtual 232, 3) := by decide +kernel
theorem dX9_instruction_9 : decode cX9_instruction 9 = .ok (.istore_n 2, 1) := by decide +kernel
theorem dX9_instruction_92 : decode cX9_instruction 92 = .ok (.ifCond .eq 15, 3) := by decide +kernel
theorem dX9_instruction_95 : decode cX9_instruction 95 = .ok (.aload_n 0, 1) := by decide +kernel
theorem dX9_instruction_96 : decode cX9_instruction 96 = .ok (.iconst 0, 1) := by decide +kernel
theorem dX9_instruction_97 : decode cX9_instruction 97 = .ok (.invokevirtual 255, 3) := by decide +kernel
def gI9 (q : Nat) (cl rg v1 v2 : Nat → Int32) (p : Nat) : Prop := (q ≠ 2 → q ≠ 3 → q ≠ 4 → q ≠ 8 → ∃ x, x < 4 ∧ cl p = nI x) ∧ (rg p = (-1) ∨ ∃ r, r < 3 ∧ rg p = nI r) ∧ (v1 p = (-1) ∨ ∃ r, r < 3 ∧ v1 p = nI r) ∧ (v2 p = (-1) ∨ ∃ r, r < 3 ∧ v2 p = nI r)