theorem dX6_readCores_0 : decode cX6_readCores 0 = .ok (.iconst 0, 1) := by decide +kernel
theorem dX6_readCores_1 : decode cX6_readCores 1 = .ok (.istore_n 1, 1) := by decide +kernel
theorem dX6_readCores_102 : decode cX6_readCores 102 = .ok (.iaload, 1) := by decide +kernel
theorem dX6_readCores_103 : decode cX6_readCores 103 = .ok (.bipush 8, 2) := by decide +kernel
theorem dX6_readCores_105 : decode cX6_readCores 105 = .ok (.if_icmp .gt 9, 3) := by decide +kernel
theorem dX6_readCores_108 : decode cX6_readCores 108 = .ok (.aload_n 0, 1) := by decide +kernel
theorem dX6_readCores_109 : decode cX6_readCores 109 = .ok (.iconst 2, 1) := by decide +kernel
theorem dX6_readCores_11 : decode cX6_readCores 11 = .ok (.aload_n 0, 1) := by decide +kernel
theorem dX6_readCores_110 : decode cX6_readCores 110 = .ok (.invokevirtual 96, 3) := by decide +kernel
theorem dX6_readCores_113 : decode cX6_readCores 113 = .ok (.ireturn, 1) := by decide +kernel
theorem dX6_readCores_114 : decode cX6_readCores 114 = .ok (.aload_n 0, 1) := by decide +kernel
theorem dX6_readCores_115 : decode cX6_readCores 115 = .ok (.bipush 11, 2) := by decide +kernel
theorem dX6_readCores_117 : decode cX6_readCores 117 = .ok (.invokevirtual 102, 3) := by decide +kernel
theorem dX6_readCores_12 : decode cX6_readCores 12 = .ok (.getfield 22, 3) := by decide +kernel
theorem dX6_readCores_120 : decode cX6_readCores 120 = .ok (.ifCond .ne 5, 3) := by decide +kernel
theorem dX6_readCores_123 : decode cX6_readCores 123 = .ok (.iconst 0, 1) := by decide +kernel
theorem dX6_readCores_124 : decode cX6_readCores 124 = .ok (.ireturn, 1) := by decide +kernel
theorem dX6_readCores_125 : decode cX6_readCores 125 = .ok (.aload_n 0, 1) := by decide +kernel
theorem dX6_readCores_126 : decode cX6_readCores 126 = .ok (.iload_n 1, 1) := by decide +kernel
theorem dX6_readCores_127 : decode cX6_readCores 127 = .ok (.invokevirtual 132, 3) := by decide +kernel
theorem dX6_readCores_130 : decode cX6_readCores 130 = .ok (.iinc 1 1, 3) := by decide +kernel
theorem dX6_readCores_133 : decode cX6_readCores 133 = .ok (.goto (-131), 3) := by decide +kernel
theorem dX6_readCores_136 : decode cX6_readCores 136 = .ok (.aload_n 0, 1) := by decide +kernel
theorem dX6_readCores_137 : decode cX6_readCores 137 = .ok (.getfield 22, 3) := by decide +kernel
theorem dX6_readCores_140 : decode cX6_readCores 140 = .ok (.aload_n 0, 1) := by decide +kernel
theorem dX6_readCores_141 : decode cX6_readCores 141 = .ok (.getfield 45, 3) := by decide +kernel
theorem dX6_readCores_144 : decode cX6_readCores 144 = .ok (.iaload, 1) := by decide +kernel
theorem dX6_readCores_145 : decode cX6_readCores 145 = .ok (.bipush 21, 2) := by decide +kernel
theorem dX6_readCores_147 : decode cX6_readCores 147 = .ok (.if_icmp .ne 5, 3) := by decide +kernel
theorem dX6_readCores_15 : decode cX6_readCores 15 = .ok (.aload_n 0, 1) := by decide +kernel
theorem dX6_readCores_150 : decode cX6_readCores 150 = .ok (.iconst 1, 1) := by decide +kernel
theorem dX6_readCores_151 : decode cX6_readCores 151 = .ok (.ireturn, 1) := by decide +kernel
theorem dX6_readCores_152 : decode cX6_readCores 152 = .ok (.aload_n 0, 1) := by decide +kernel
theorem dX6_readCores_153 : decode cX6_readCores 153 = .ok (.aload_n 0, 1) := by decide +kernel
theorem dX6_readCores_154 : decode cX6_readCores 154 = .ok (.getfield 22, 3) := by decide +kernel
theorem dX6_readCores_157 : decode cX6_readCores 157 = .ok (.aload_n 0, 1) := by decide +kernel
theorem dX6_readCores_158 : decode cX6_readCores 158 = .ok (.getfield 45, 3) := by decide +kernel
theorem dX6_readCores_16 : decode cX6_readCores 16 = .ok (.getfield 45, 3) := by decide +kernel
theorem dX6_readCores_161 : decode cX6_readCores 161 = .ok (.iaload, 1) := by decide +kernel
theorem dX6_readCores_162 : decode cX6_readCores 162 = .ok (.bipush 10, 2) := by decide +kernel
theorem dX6_readCores_164 : decode cX6_readCores 164 = .ok (.if_icmp .ne 7, 3) := by decide +kernel
theorem dX6_readCores_167 : decode cX6_readCores 167 = .ok (.iconst 2, 1) := by decide +kernel
theorem dX6_readCores_168 : decode cX6_readCores 168 = .ok (.goto 4, 3) := by decide +kernel
theorem dX6_readCores_171 : decode cX6_readCores 171 = .ok (.iconst 1, 1) := by decide +kernel
theorem dX6_readCores_172 : decode cX6_readCores 172 = .ok (.invokevirtual 96, 3) := by decide +kernel
theorem dX6_readCores_175 : decode cX6_readCores 175 = .ok (.ireturn, 1) := by decide +kernel
theorem dX6_readCores_19 : decode cX6_readCores 19 = .ok (.iaload, 1) := by decide +kernel
theorem dX6_readCores_2 : decode cX6_readCores 2 = .ok (.iload_n 1, 1) := by decide +kernel
theorem dX6_readCores_20 : decode cX6_readCores 20 = .ok (.bipush 21, 2) := by decide +kernel
theorem dX6_readCores_22 : decode cX6_readCores 22 = .ok (.if_icmp .eq 114, 3) := by decide +kernel
theorem dX6_readCores_25 : decode cX6_readCores 25 = .ok (.aload_n 0, 1) := by decide +kernel
theorem dX6_readCores_26 : decode cX6_readCores 26 = .ok (.getfield 12, 3) := by decide +kernel
theorem dX6_readCores_29 : decode cX6_readCores 29 = .ok (.iload_n 1, 1) := by decide +kernel
theorem dX6_readCores_3 : decode cX6_readCores 3 = .ok (.iconst 3, 1) := by decide +kernel
theorem dX6_readCores_30 : decode cX6_readCores 30 = .ok (.iconst 1, 1) := by decide +kernel
theorem dX6_readCores_31 : decode cX6_readCores 31 = .ok (.iadd, 1) := by decide +kernel
theorem dX6_readCores_32 : decode cX6_readCores 32 = .ok (.putfield 125, 3) := by decide +kernel
theorem dX6_readCores_35 : decode cX6_readCores 35 = .ok (.aload_n 0, 1) := by decide +kernel
theorem dX6_readCores_36 : decode cX6_readCores 36 = .ok (.bipush 10, 2) := by decide +kernel
theorem dX6_readCores_38 : decode cX6_readCores 38 = .ok (.invokevirtual 102, 3) := by decide +kernel
theorem dX6_readCores_4 : decode cX6_readCores 4 = .ok (.if_icmp .ge 132, 3) := by decide +kernel
theorem dX6_readCores_41 : decode cX6_readCores 41 = .ok (.ifCond .eq 12, 3) := by decide +kernel
theorem dX6_readCores_44 : decode cX6_readCores 44 = .ok (.aload_n 0, 1) := by decide +kernel
theorem dX6_readCores_45 : decode cX6_readCores 45 = .ok (.bipush 17, 2) := by decide +kernel
theorem dX6_readCores_47 : decode cX6_readCores 47 = .ok (.invokevirtual 102, 3) := by decide +kernel
theorem dX6_readCores_50 : decode cX6_readCores 50 = .ok (.ifCond .ne 5, 3) := by decide +kernel
theorem dX6_readCores_53 : decode cX6_readCores 53 = .ok (.iconst 0, 1) := by decide +kernel
theorem dX6_readCores_54 : decode cX6_readCores 54 = .ok (.ireturn, 1) := by decide +kernel
theorem dX6_readCores_55 : decode cX6_readCores 55 = .ok (.iconst 0, 1) := by decide +kernel
theorem dX6_readCores_56 : decode cX6_readCores 56 = .ok (.istore_n 2, 1) := by decide +kernel
theorem dX6_readCores_57 : decode cX6_readCores 57 = .ok (.iload_n 2, 1) := by decide +kernel
theorem dX6_readCores_58 : decode cX6_readCores 58 = .ok (.bipush 6, 2) := by decide +kernel
theorem dX6_readCores_60 : decode cX6_readCores 60 = .ok (.if_icmp .ge 34, 3) := by decide +kernel
theorem dX6_readCores_63 : decode cX6_readCores 63 = .ok (.aload_n 0, 1) := by decide +kernel
theorem dX6_readCores_64 : decode cX6_readCores 64 = .ok (.getfield 22, 3) := by decide +kernel
theorem dX6_readCores_67 : decode cX6_readCores 67 = .ok (.aload_n 0, 1) := by decide +kernel
theorem dX6_readCores_68 : decode cX6_readCores 68 = .ok (.getfield 45, 3) := by decide +kernel
theorem dX6_readCores_7 : decode cX6_readCores 7 = .ok (.iload_n 1, 1) := by decide +kernel
theorem dX6_readCores_71 : decode cX6_readCores 71 = .ok (.iaload, 1) := by decide +kernel
theorem dX6_readCores_72 : decode cX6_readCores 72 = .ok (.bipush 8, 2) := by decide +kernel
theorem dX6_readCores_74 : decode cX6_readCores 74 = .ok (.if_icmp .gt 20, 3) := by decide +kernel
theorem dX6_readCores_77 : decode cX6_readCores 77 = .ok (.aload_n 0, 1) := by decide +kernel
theorem dX6_readCores_78 : decode cX6_readCores 78 = .ok (.iload_n 1, 1) := by decide +kernel
theorem dX6_readCores_79 : decode cX6_readCores 79 = .ok (.iload_n 2, 1) := by decide +kernel
theorem dX6_readCores_8 : decode cX6_readCores 8 = .ok (.ifCond .eq 17, 3) := by decide +kernel
theorem dX6_readCores_80 : decode cX6_readCores 80 = .ok (.invokevirtual 128, 3) := by decide +kernel
theorem dX6_readCores_83 : decode cX6_readCores 83 = .ok (.ifCond .ne 5, 3) := by decide +kernel
theorem dX6_readCores_86 : decode cX6_readCores 86 = .ok (.iconst 0, 1) := by decide +kernel
theorem dX6_readCores_87 : decode cX6_readCores 87 = .ok (.ireturn, 1) := by decide +kernel
theorem dX6_readCores_88 : decode cX6_readCores 88 = .ok (.iinc 2 1, 3) := by decide +kernel
theorem dX6_readCores_91 : decode cX6_readCores 91 = .ok (.goto (-34), 3) := by decide +kernel
theorem dX6_readCores_94 : decode cX6_readCores 94 = .ok (.aload_n 0, 1) := by decide +kernel
theorem dX6_readCores_95 : decode cX6_readCores 95 = .ok (.getfield 22, 3) := by decide +kernel
theorem dX6_readCores_98 : decode cX6_readCores 98 = .ok (.aload_n 0, 1) := by decide +kernel
theorem dX6_readCores_99 : decode cX6_readCores 99 = .ok (.getfield 45, 3) := by decide +kernel
def gCo8 (L : Nat → Nat) (pf : Nat → Int32) (lp : Int32) (k : Nat) : Prop := lp = (-1) → ∀ j, j < k → ∀ i, i < L j → gIns pf (((j * 8) + i) * 8) 5
theorem gCo8_s {L L2 : Nat → Nat} {pf pf2 : Nat → Int32} {lp lp9 : Int32} {k : Nat} (h : gCo8 L pf lp k) (hl : lp9 = (-1) → lp = (-1)) (hL : ∀ j, j < k → L2 j = L j) (h6 : ∀ j, j < k → L j ≤ 8) (hp : ∀ j, j < (k * 8) * 8 → pf2 j = pf j) (hn : lp9 = (-1) → ∀ j, j < L2 k → gIns pf2 (((k * 8) + j) * 8) 5) : gCo8 L2 pf2 lp9 (k + 1) := by
  intro e j hj i hi
  by_cases q : j = k
  · subst q; exact hn e i hi
  · have hjk : j < k := by omega
    rw [hL j hjk] at hi
    have := h6 j hjk
    exact gIns_fr (h (hl e) j hjk i hi) (fun x x1 x2 => hp x (by omega))
theorem gInq_a {pf pf9 : Nat → Int32} {k i n : Nat} {lp lp9 : Int32} (h : ∀ j, j < i → gInq pf (((k * 8) + j) * 8) lp) (hn : ((k * 8) + i) * 8 = n) (hf : ∀ j, (j < n ∨ n + 8 ≤ j) → pf9 j = pf j) (hl : lp9 = (-1) → lp = (-1)) (hg : gInq pf9 n lp9) : ∀ j, j < i + 1 → gInq pf9 (((k * 8) + j) * 8) lp9 := by
  intro j hj
  by_cases e : j = i
  · subst e; rw [hn]; exact hg
  · exact gInq_lp (gInq_fr (h j (by omega)) (fun x x1 x2 => hf x (by omega))) hl
theorem gG_end {L : Nat → Nat} {pf : Nat → Int32} {lp : Int32} {k : Nat} (h : gCo8 L pf lp k) (h0 : ∀ j, k ≤ j → j < 3 → L j = 0) (hl : lp = (-1)) : gG L pf 5 := by
  intro j hj i hi
  by_cases e : j < k
  · exact h hl j e i hi
  · rw [h0 j (by omega) hj] at hi
    exact absurd hi (Nat.not_lt_zero i)