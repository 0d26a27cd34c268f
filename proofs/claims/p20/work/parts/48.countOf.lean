theorem dX8_countOfProgram_0 : decode cX8_countOfProgram 0 = .ok (.iload_n 1, 1) := by decide +kernel
theorem dX8_countOfProgram_1 : decode cX8_countOfProgram 1 = .ok (.tableswitch 154 0 7 #[47, 55, 63, 72, 81, 90, 99, 121], 47) := by decide +kernel
theorem dX8_countOfProgram_100 : decode cX8_countOfProgram 100 = .ok (.aload_n 0, 1) := by decide +kernel
theorem dX8_countOfProgram_101 : decode cX8_countOfProgram 101 = .ok (.getfield 34, 3) := by decide +kernel
theorem dX8_countOfProgram_104 : decode cX8_countOfProgram 104 = .ok (.getfield 86, 3) := by decide +kernel
theorem dX8_countOfProgram_107 : decode cX8_countOfProgram 107 = .ok (.ifCond .eq 13, 3) := by decide +kernel
theorem dX8_countOfProgram_110 : decode cX8_countOfProgram 110 = .ok (.aload_n 0, 1) := by decide +kernel
theorem dX8_countOfProgram_111 : decode cX8_countOfProgram 111 = .ok (.getfield 34, 3) := by decide +kernel
theorem dX8_countOfProgram_114 : decode cX8_countOfProgram 114 = .ok (.getfield 209, 3) := by decide +kernel
theorem dX8_countOfProgram_117 : decode cX8_countOfProgram 117 = .ok (.goto 4, 3) := by decide +kernel
theorem dX8_countOfProgram_120 : decode cX8_countOfProgram 120 = .ok (.iconst 0, 1) := by decide +kernel
theorem dX8_countOfProgram_121 : decode cX8_countOfProgram 121 = .ok (.ireturn, 1) := by decide +kernel
theorem dX8_countOfProgram_122 : decode cX8_countOfProgram 122 = .ok (.aload_n 0, 1) := by decide +kernel
theorem dX8_countOfProgram_123 : decode cX8_countOfProgram 123 = .ok (.getfield 34, 3) := by decide +kernel
theorem dX8_countOfProgram_126 : decode cX8_countOfProgram 126 = .ok (.getfield 86, 3) := by decide +kernel
theorem dX8_countOfProgram_129 : decode cX8_countOfProgram 129 = .ok (.ifCond .eq 24, 3) := by decide +kernel
theorem dX8_countOfProgram_132 : decode cX8_countOfProgram 132 = .ok (.aload_n 0, 1) := by decide +kernel
theorem dX8_countOfProgram_133 : decode cX8_countOfProgram 133 = .ok (.getfield 34, 3) := by decide +kernel
theorem dX8_countOfProgram_136 : decode cX8_countOfProgram 136 = .ok (.getfield 126, 3) := by decide +kernel
theorem dX8_countOfProgram_139 : decode cX8_countOfProgram 139 = .ok (.aload_n 0, 1) := by decide +kernel
theorem dX8_countOfProgram_140 : decode cX8_countOfProgram 140 = .ok (.getfield 27, 3) := by decide +kernel
theorem dX8_countOfProgram_143 : decode cX8_countOfProgram 143 = .ok (.invokevirtual 212, 3) := by decide +kernel
theorem dX8_countOfProgram_146 : decode cX8_countOfProgram 146 = .ok (.ifCond .eq 7, 3) := by decide +kernel
theorem dX8_countOfProgram_149 : decode cX8_countOfProgram 149 = .ok (.iconst 1, 1) := by decide +kernel
theorem dX8_countOfProgram_150 : decode cX8_countOfProgram 150 = .ok (.goto 4, 3) := by decide +kernel
theorem dX8_countOfProgram_153 : decode cX8_countOfProgram 153 = .ok (.iconst 0, 1) := by decide +kernel
theorem dX8_countOfProgram_154 : decode cX8_countOfProgram 154 = .ok (.ireturn, 1) := by decide +kernel
theorem dX8_countOfProgram_155 : decode cX8_countOfProgram 155 = .ok (.aload_n 0, 1) := by decide +kernel
theorem dX8_countOfProgram_156 : decode cX8_countOfProgram 156 = .ok (.getfield 27, 3) := by decide +kernel
theorem dX8_countOfProgram_159 : decode cX8_countOfProgram 159 = .ok (.invokevirtual 215, 3) := by decide +kernel
theorem dX8_countOfProgram_162 : decode cX8_countOfProgram 162 = .ok (.ireturn, 1) := by decide +kernel
theorem dX8_countOfProgram_48 : decode cX8_countOfProgram 48 = .ok (.aload_n 0, 1) := by decide +kernel
theorem dX8_countOfProgram_49 : decode cX8_countOfProgram 49 = .ok (.getfield 27, 3) := by decide +kernel
theorem dX8_countOfProgram_52 : decode cX8_countOfProgram 52 = .ok (.getfield 108, 3) := by decide +kernel
theorem dX8_countOfProgram_55 : decode cX8_countOfProgram 55 = .ok (.ireturn, 1) := by decide +kernel
theorem dX8_countOfProgram_56 : decode cX8_countOfProgram 56 = .ok (.aload_n 0, 1) := by decide +kernel
theorem dX8_countOfProgram_57 : decode cX8_countOfProgram 57 = .ok (.getfield 27, 3) := by decide +kernel
theorem dX8_countOfProgram_60 : decode cX8_countOfProgram 60 = .ok (.invokevirtual 199, 3) := by decide +kernel
theorem dX8_countOfProgram_63 : decode cX8_countOfProgram 63 = .ok (.ireturn, 1) := by decide +kernel
theorem dX8_countOfProgram_64 : decode cX8_countOfProgram 64 = .ok (.aload_n 0, 1) := by decide +kernel
theorem dX8_countOfProgram_65 : decode cX8_countOfProgram 65 = .ok (.iconst 1, 1) := by decide +kernel
theorem dX8_countOfProgram_66 : decode cX8_countOfProgram 66 = .ok (.invokevirtual 149, 3) := by decide +kernel
theorem dX8_countOfProgram_69 : decode cX8_countOfProgram 69 = .ok (.invokevirtual 203, 3) := by decide +kernel
theorem dX8_countOfProgram_72 : decode cX8_countOfProgram 72 = .ok (.ireturn, 1) := by decide +kernel
theorem dX8_countOfProgram_73 : decode cX8_countOfProgram 73 = .ok (.aload_n 0, 1) := by decide +kernel
theorem dX8_countOfProgram_74 : decode cX8_countOfProgram 74 = .ok (.iconst 0, 1) := by decide +kernel
theorem dX8_countOfProgram_75 : decode cX8_countOfProgram 75 = .ok (.invokevirtual 149, 3) := by decide +kernel
theorem dX8_countOfProgram_78 : decode cX8_countOfProgram 78 = .ok (.invokevirtual 203, 3) := by decide +kernel
theorem dX8_countOfProgram_81 : decode cX8_countOfProgram 81 = .ok (.ireturn, 1) := by decide +kernel
theorem dX8_countOfProgram_82 : decode cX8_countOfProgram 82 = .ok (.aload_n 0, 1) := by decide +kernel
theorem dX8_countOfProgram_83 : decode cX8_countOfProgram 83 = .ok (.iconst 1, 1) := by decide +kernel
theorem dX8_countOfProgram_84 : decode cX8_countOfProgram 84 = .ok (.invokevirtual 149, 3) := by decide +kernel
theorem dX8_countOfProgram_87 : decode cX8_countOfProgram 87 = .ok (.invokevirtual 206, 3) := by decide +kernel
theorem dX8_countOfProgram_90 : decode cX8_countOfProgram 90 = .ok (.ireturn, 1) := by decide +kernel
theorem dX8_countOfProgram_91 : decode cX8_countOfProgram 91 = .ok (.aload_n 0, 1) := by decide +kernel
theorem dX8_countOfProgram_92 : decode cX8_countOfProgram 92 = .ok (.iconst 0, 1) := by decide +kernel
theorem dX8_countOfProgram_93 : decode cX8_countOfProgram 93 = .ok (.invokevirtual 149, 3) := by decide +kernel
theorem dX8_countOfProgram_96 : decode cX8_countOfProgram 96 = .ok (.invokevirtual 206, 3) := by decide +kernel
theorem dX8_countOfProgram_99 : decode cX8_countOfProgram 99 = .ok (.ireturn, 1) := by decide +kernel
theorem gW_c_insInAll : wsP_c_insInAll.all goodWord = true := by decide +kernel