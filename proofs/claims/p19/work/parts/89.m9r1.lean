theorem dX9_isRace_0 : decode cX9_isRace 0 = .ok (.iconst 0, 1) := by decide +kernel
theorem dX9_isRace_1 : decode cX9_isRace 1 = .ok (.istore_n 2, 1) := by decide +kernel
theorem dX9_isRace_10 : decode cX9_isRace 10 = .ok (.invokevirtual 359, 3) := by decide +kernel
theorem dX9_isRace_100 : decode cX9_isRace 100 = .ok (.goto 10, 3) := by decide +kernel
theorem dX9_isRace_103 : decode cX9_isRace 103 = .ok (.aload_n 0, 1) := by decide +kernel
theorem dX9_isRace_104 : decode cX9_isRace 104 = .ok (.iload_n 1, 1) := by decide +kernel
theorem dX9_isRace_105 : decode cX9_isRace 105 = .ok (.iload 6, 2) := by decide +kernel
theorem dX9_isRace_107 : decode cX9_isRace 107 = .ok (.invokevirtual 359, 3) := by decide +kernel
theorem dX9_isRace_110 : decode cX9_isRace 110 = .ok (.istore 7, 2) := by decide +kernel
theorem dX9_isRace_112 : decode cX9_isRace 112 = .ok (.iload 7, 2) := by decide +kernel
theorem dX9_isRace_114 : decode cX9_isRace 114 = .ok (.ifCond .lt 68, 3) := by decide +kernel
theorem dX9_isRace_117 : decode cX9_isRace 117 = .ok (.aload_n 0, 1) := by decide +kernel
theorem dX9_isRace_118 : decode cX9_isRace 118 = .ok (.getfield 19, 3) := by decide +kernel
theorem dX9_isRace_121 : decode cX9_isRace 121 = .ok (.iload 7, 2) := by decide +kernel
theorem dX9_isRace_123 : decode cX9_isRace 123 = .ok (.iaload, 1) := by decide +kernel
theorem dX9_isRace_124 : decode cX9_isRace 124 = .ok (.iload 4, 2) := by decide +kernel
theorem dX9_isRace_126 : decode cX9_isRace 126 = .ok (.if_icmp .ne 56, 3) := by decide +kernel
theorem dX9_isRace_129 : decode cX9_isRace 129 = .ok (.aload_n 0, 1) := by decide +kernel
theorem dX9_isRace_13 : decode cX9_isRace 13 = .ok (.istore_n 3, 1) := by decide +kernel
theorem dX9_isRace_130 : decode cX9_isRace 130 = .ok (.getfield 16, 3) := by decide +kernel
theorem dX9_isRace_133 : decode cX9_isRace 133 = .ok (.iload 7, 2) := by decide +kernel
theorem dX9_isRace_135 : decode cX9_isRace 135 = .ok (.iaload, 1) := by decide +kernel
theorem dX9_isRace_136 : decode cX9_isRace 136 = .ok (.iconst 1, 1) := by decide +kernel
theorem dX9_isRace_137 : decode cX9_isRace 137 = .ok (.if_icmp .eq 26, 3) := by decide +kernel
theorem dX9_isRace_14 : decode cX9_isRace 14 = .ok (.iload_n 3, 1) := by decide +kernel
theorem dX9_isRace_140 : decode cX9_isRace 140 = .ok (.aload_n 0, 1) := by decide +kernel
theorem dX9_isRace_141 : decode cX9_isRace 141 = .ok (.getfield 16, 3) := by decide +kernel
theorem dX9_isRace_144 : decode cX9_isRace 144 = .ok (.iload 7, 2) := by decide +kernel
theorem dX9_isRace_146 : decode cX9_isRace 146 = .ok (.iaload, 1) := by decide +kernel
theorem dX9_isRace_147 : decode cX9_isRace 147 = .ok (.iconst 5, 1) := by decide +kernel
theorem dX9_isRace_148 : decode cX9_isRace 148 = .ok (.if_icmp .lt 34, 3) := by decide +kernel
theorem dX9_isRace_15 : decode cX9_isRace 15 = .ok (.ifCond .lt 21, 3) := by decide +kernel
theorem dX9_isRace_151 : decode cX9_isRace 151 = .ok (.aload_n 0, 1) := by decide +kernel
theorem dX9_isRace_152 : decode cX9_isRace 152 = .ok (.getfield 16, 3) := by decide +kernel
theorem dX9_isRace_155 : decode cX9_isRace 155 = .ok (.iload 7, 2) := by decide +kernel
theorem dX9_isRace_157 : decode cX9_isRace 157 = .ok (.iaload, 1) := by decide +kernel
theorem dX9_isRace_158 : decode cX9_isRace 158 = .ok (.bipush 7, 2) := by decide +kernel
theorem dX9_isRace_160 : decode cX9_isRace 160 = .ok (.if_icmp .gt 22, 3) := by decide +kernel
theorem dX9_isRace_163 : decode cX9_isRace 163 = .ok (.aload_n 0, 1) := by decide +kernel
theorem dX9_isRace_164 : decode cX9_isRace 164 = .ok (.iload_n 2, 1) := by decide +kernel
theorem dX9_isRace_165 : decode cX9_isRace 165 = .ok (.putfield 362, 3) := by decide +kernel
theorem dX9_isRace_168 : decode cX9_isRace 168 = .ok (.aload_n 0, 1) := by decide +kernel
theorem dX9_isRace_169 : decode cX9_isRace 169 = .ok (.iload 6, 2) := by decide +kernel
theorem dX9_isRace_171 : decode cX9_isRace 171 = .ok (.putfield 365, 3) := by decide +kernel
theorem dX9_isRace_174 : decode cX9_isRace 174 = .ok (.aload_n 0, 1) := by decide +kernel
theorem dX9_isRace_175 : decode cX9_isRace 175 = .ok (.iload 4, 2) := by decide +kernel
theorem dX9_isRace_177 : decode cX9_isRace 177 = .ok (.putfield 368, 3) := by decide +kernel
theorem dX9_isRace_18 : decode cX9_isRace 18 = .ok (.aload_n 0, 1) := by decide +kernel
theorem dX9_isRace_180 : decode cX9_isRace 180 = .ok (.iconst 1, 1) := by decide +kernel
theorem dX9_isRace_181 : decode cX9_isRace 181 = .ok (.ireturn, 1) := by decide +kernel
theorem dX9_isRace_182 : decode cX9_isRace 182 = .ok (.iinc 6 1, 3) := by decide +kernel
theorem dX9_isRace_185 : decode cX9_isRace 185 = .ok (.goto (-103), 3) := by decide +kernel
theorem dX9_isRace_188 : decode cX9_isRace 188 = .ok (.iinc 2 1, 3) := by decide +kernel
theorem dX9_isRace_19 : decode cX9_isRace 19 = .ok (.getfield 16, 3) := by decide +kernel
theorem dX9_isRace_191 : decode cX9_isRace 191 = .ok (.goto (-189), 3) := by decide +kernel
theorem dX9_isRace_194 : decode cX9_isRace 194 = .ok (.iconst 0, 1) := by decide +kernel
theorem dX9_isRace_195 : decode cX9_isRace 195 = .ok (.ireturn, 1) := by decide +kernel
theorem dX9_isRace_2 : decode cX9_isRace 2 = .ok (.iload_n 2, 1) := by decide +kernel
theorem dX9_isRace_22 : decode cX9_isRace 22 = .ok (.iload_n 3, 1) := by decide +kernel
theorem dX9_isRace_23 : decode cX9_isRace 23 = .ok (.iaload, 1) := by decide +kernel
theorem dX9_isRace_24 : decode cX9_isRace 24 = .ok (.ifCond .ne 12, 3) := by decide +kernel
theorem dX9_isRace_27 : decode cX9_isRace 27 = .ok (.aload_n 0, 1) := by decide +kernel
theorem dX9_isRace_28 : decode cX9_isRace 28 = .ok (.getfield 19, 3) := by decide +kernel
theorem dX9_isRace_3 : decode cX9_isRace 3 = .ok (.iconst 3, 1) := by decide +kernel
theorem dX9_isRace_31 : decode cX9_isRace 31 = .ok (.iload_n 3, 1) := by decide +kernel
theorem dX9_isRace_32 : decode cX9_isRace 32 = .ok (.iaload, 1) := by decide +kernel
theorem dX9_isRace_33 : decode cX9_isRace 33 = .ok (.goto 4, 3) := by decide +kernel
theorem dX9_isRace_36 : decode cX9_isRace 36 = .ok (.iconst (-1), 1) := by decide +kernel
theorem dX9_isRace_37 : decode cX9_isRace 37 = .ok (.istore 4, 2) := by decide +kernel
theorem dX9_isRace_39 : decode cX9_isRace 39 = .ok (.iload 4, 2) := by decide +kernel
theorem dX9_isRace_4 : decode cX9_isRace 4 = .ok (.if_icmp .ge 190, 3) := by decide +kernel
theorem dX9_isRace_41 : decode cX9_isRace 41 = .ok (.ifCond .lt 35, 3) := by decide +kernel
theorem dX9_isRace_44 : decode cX9_isRace 44 = .ok (.aload_n 0, 1) := by decide +kernel
theorem dX9_isRace_45 : decode cX9_isRace 45 = .ok (.getfield 44, 3) := by decide +kernel
theorem dX9_isRace_48 : decode cX9_isRace 48 = .ok (.sipush 6000, 3) := by decide +kernel
theorem dX9_isRace_51 : decode cX9_isRace 51 = .ok (.iload_n 1, 1) := by decide +kernel
theorem dX9_isRace_52 : decode cX9_isRace 52 = .ok (.iadd, 1) := by decide +kernel
theorem dX9_isRace_53 : decode cX9_isRace 53 = .ok (.bipush 58, 2) := by decide +kernel
theorem dX9_isRace_55 : decode cX9_isRace 55 = .ok (.imul, 1) := by decide +kernel
theorem dX9_isRace_56 : decode cX9_isRace 56 = .ok (.bipush 55, 2) := by decide +kernel
theorem dX9_isRace_58 : decode cX9_isRace 58 = .ok (.iadd, 1) := by decide +kernel
theorem dX9_isRace_59 : decode cX9_isRace 59 = .ok (.iload_n 2, 1) := by decide +kernel
theorem dX9_isRace_60 : decode cX9_isRace 60 = .ok (.iadd, 1) := by decide +kernel
theorem dX9_isRace_61 : decode cX9_isRace 61 = .ok (.iaload, 1) := by decide +kernel
theorem dX9_isRace_62 : decode cX9_isRace 62 = .ok (.iconst 1, 1) := by decide +kernel
theorem dX9_isRace_63 : decode cX9_isRace 63 = .ok (.iload 4, 2) := by decide +kernel
theorem dX9_isRace_65 : decode cX9_isRace 65 = .ok (.ishl, 1) := by decide +kernel
theorem dX9_isRace_66 : decode cX9_isRace 66 = .ok (.iconst (-1), 1) := by decide +kernel
theorem dX9_isRace_67 : decode cX9_isRace 67 = .ok (.ixor, 1) := by decide +kernel
theorem dX9_isRace_68 : decode cX9_isRace 68 = .ok (.iand, 1) := by decide +kernel
theorem dX9_isRace_69 : decode cX9_isRace 69 = .ok (.ifCond .eq 7, 3) := by decide +kernel
theorem dX9_isRace_7 : decode cX9_isRace 7 = .ok (.aload_n 0, 1) := by decide +kernel
theorem dX9_isRace_72 : decode cX9_isRace 72 = .ok (.iconst 1, 1) := by decide +kernel
theorem dX9_isRace_73 : decode cX9_isRace 73 = .ok (.goto 4, 3) := by decide +kernel
theorem dX9_isRace_76 : decode cX9_isRace 76 = .ok (.iconst 0, 1) := by decide +kernel
theorem dX9_isRace_77 : decode cX9_isRace 77 = .ok (.istore 5, 2) := by decide +kernel
theorem dX9_isRace_79 : decode cX9_isRace 79 = .ok (.iconst 0, 1) := by decide +kernel
theorem dX9_isRace_8 : decode cX9_isRace 8 = .ok (.iload_n 1, 1) := by decide +kernel
theorem dX9_isRace_80 : decode cX9_isRace 80 = .ok (.istore 6, 2) := by decide +kernel
theorem dX9_isRace_82 : decode cX9_isRace 82 = .ok (.iload 6, 2) := by decide +kernel
theorem dX9_isRace_84 : decode cX9_isRace 84 = .ok (.iconst 3, 1) := by decide +kernel
theorem dX9_isRace_85 : decode cX9_isRace 85 = .ok (.if_icmp .ge 103, 3) := by decide +kernel
theorem dX9_isRace_88 : decode cX9_isRace 88 = .ok (.iload 5, 2) := by decide +kernel
theorem dX9_isRace_9 : decode cX9_isRace 9 = .ok (.iload_n 2, 1) := by decide +kernel
theorem dX9_isRace_90 : decode cX9_isRace 90 = .ok (.ifCond .eq 98, 3) := by decide +kernel
theorem dX9_isRace_93 : decode cX9_isRace 93 = .ok (.iload 6, 2) := by decide +kernel
theorem dX9_isRace_95 : decode cX9_isRace 95 = .ok (.iload_n 2, 1) := by decide +kernel
theorem dX9_isRace_96 : decode cX9_isRace 96 = .ok (.if_icmp .ne 7, 3) := by decide +kernel
theorem dX9_isRace_99 : decode cX9_isRace 99 = .ok (.iconst (-1), 1) := by decide +kernel
theorem gRw9 {sf : Nat → Int32} {n : Nat} {nx rz : Nat → Nat} (hG : gW9 (fun j => sf ((((3000 * 2) + n) * 58) + j)) nx rz) : ∀ k, k < 3 → sf (((6000 + n) * 58) + k) = nI (nx k) ∧ nx k ≤ 1200 := by
  intro k hk
  obtain ⟨h1, _, h3, _⟩ := hG k hk
  have h1 : sf ((((3000 * 2) + n) * 58) + k) = nI (nx k) := h1
  exact ⟨by rw [show ((6000 + n) * 58) + k = (((3000 * 2) + n) * 58) + k by omega]; exact h1, h3⟩
theorem gNn {z : Int32} (e : z = (-1)) (h : ¬ z < 0) : False := h (by rw [e]; decide)