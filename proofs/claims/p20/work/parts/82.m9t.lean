theorem dX9_sink_0 : decode cX9_sink 0 = .ok (.iload_n 2, 1) := by decide +kernel
theorem dX9_sink_1 : decode cX9_sink 1 = .ok (.istore 4, 2) := by decide +kernel
theorem dX9_sink_10 : decode cX9_sink 10 = .ok (.iload_n 1, 1) := by decide +kernel
theorem dX9_sink_102 : decode cX9_sink 102 = .ok (.sipush 3000, 3) := by decide +kernel
theorem dX9_sink_105 : decode cX9_sink 105 = .ok (.iload_n 1, 1) := by decide +kernel
theorem dX9_sink_106 : decode cX9_sink 106 = .ok (.imul, 1) := by decide +kernel
theorem dX9_sink_107 : decode cX9_sink 107 = .ok (.iload 7, 2) := by decide +kernel
theorem dX9_sink_109 : decode cX9_sink 109 = .ok (.iadd, 1) := by decide +kernel
theorem dX9_sink_11 : decode cX9_sink 11 = .ok (.imul, 1) := by decide +kernel
theorem dX9_sink_110 : decode cX9_sink 110 = .ok (.iaload, 1) := by decide +kernel
theorem dX9_sink_111 : decode cX9_sink 111 = .ok (.iload_n 1, 1) := by decide +kernel
theorem dX9_sink_112 : decode cX9_sink 112 = .ok (.iload 5, 2) := by decide +kernel
theorem dX9_sink_114 : decode cX9_sink 114 = .ok (.invokevirtual 327, 3) := by decide +kernel
theorem dX9_sink_117 : decode cX9_sink 117 = .ok (.ifCond .le 7, 3) := by decide +kernel
theorem dX9_sink_12 : decode cX9_sink 12 = .ok (.iload 4, 2) := by decide +kernel
theorem dX9_sink_120 : decode cX9_sink 120 = .ok (.iconst 1, 1) := by decide +kernel
theorem dX9_sink_121 : decode cX9_sink 121 = .ok (.goto 4, 3) := by decide +kernel
theorem dX9_sink_124 : decode cX9_sink 124 = .ok (.iconst 0, 1) := by decide +kernel
theorem dX9_sink_125 : decode cX9_sink 125 = .ok (.istore 6, 2) := by decide +kernel
theorem dX9_sink_127 : decode cX9_sink 127 = .ok (.iload 6, 2) := by decide +kernel
theorem dX9_sink_129 : decode cX9_sink 129 = .ok (.ifCond .eq 50, 3) := by decide +kernel
theorem dX9_sink_132 : decode cX9_sink 132 = .ok (.aload_n 0, 1) := by decide +kernel
theorem dX9_sink_133 : decode cX9_sink 133 = .ok (.getfield 69, 3) := by decide +kernel
theorem dX9_sink_136 : decode cX9_sink 136 = .ok (.sipush 3000, 3) := by decide +kernel
theorem dX9_sink_139 : decode cX9_sink 139 = .ok (.iload_n 1, 1) := by decide +kernel
theorem dX9_sink_14 : decode cX9_sink 14 = .ok (.iadd, 1) := by decide +kernel
theorem dX9_sink_140 : decode cX9_sink 140 = .ok (.imul, 1) := by decide +kernel
theorem dX9_sink_141 : decode cX9_sink 141 = .ok (.iload 4, 2) := by decide +kernel
theorem dX9_sink_143 : decode cX9_sink 143 = .ok (.iadd, 1) := by decide +kernel
theorem dX9_sink_144 : decode cX9_sink 144 = .ok (.aload_n 0, 1) := by decide +kernel
theorem dX9_sink_145 : decode cX9_sink 145 = .ok (.getfield 69, 3) := by decide +kernel
theorem dX9_sink_148 : decode cX9_sink 148 = .ok (.sipush 3000, 3) := by decide +kernel
theorem dX9_sink_15 : decode cX9_sink 15 = .ok (.iaload, 1) := by decide +kernel
theorem dX9_sink_151 : decode cX9_sink 151 = .ok (.iload_n 1, 1) := by decide +kernel
theorem dX9_sink_152 : decode cX9_sink 152 = .ok (.imul, 1) := by decide +kernel
theorem dX9_sink_153 : decode cX9_sink 153 = .ok (.iload 7, 2) := by decide +kernel
theorem dX9_sink_155 : decode cX9_sink 155 = .ok (.iadd, 1) := by decide +kernel
theorem dX9_sink_156 : decode cX9_sink 156 = .ok (.iaload, 1) := by decide +kernel
theorem dX9_sink_157 : decode cX9_sink 157 = .ok (.iastore, 1) := by decide +kernel
theorem dX9_sink_158 : decode cX9_sink 158 = .ok (.iload 7, 2) := by decide +kernel
theorem dX9_sink_16 : decode cX9_sink 16 = .ok (.istore 5, 2) := by decide +kernel
theorem dX9_sink_160 : decode cX9_sink 160 = .ok (.istore 4, 2) := by decide +kernel
theorem dX9_sink_162 : decode cX9_sink 162 = .ok (.iconst 2, 1) := by decide +kernel
theorem dX9_sink_163 : decode cX9_sink 163 = .ok (.iload 4, 2) := by decide +kernel
theorem dX9_sink_165 : decode cX9_sink 165 = .ok (.imul, 1) := by decide +kernel
theorem dX9_sink_166 : decode cX9_sink 166 = .ok (.iconst 1, 1) := by decide +kernel
theorem dX9_sink_167 : decode cX9_sink 167 = .ok (.iadd, 1) := by decide +kernel
theorem dX9_sink_168 : decode cX9_sink 168 = .ok (.iload_n 3, 1) := by decide +kernel
theorem dX9_sink_169 : decode cX9_sink 169 = .ok (.if_icmp .ge 7, 3) := by decide +kernel
theorem dX9_sink_172 : decode cX9_sink 172 = .ok (.iconst 1, 1) := by decide +kernel
theorem dX9_sink_173 : decode cX9_sink 173 = .ok (.goto 4, 3) := by decide +kernel
theorem dX9_sink_176 : decode cX9_sink 176 = .ok (.iconst 0, 1) := by decide +kernel
theorem dX9_sink_177 : decode cX9_sink 177 = .ok (.istore 6, 2) := by decide +kernel
theorem dX9_sink_179 : decode cX9_sink 179 = .ok (.goto (-144), 3) := by decide +kernel
theorem dX9_sink_18 : decode cX9_sink 18 = .ok (.iconst 2, 1) := by decide +kernel
theorem dX9_sink_182 : decode cX9_sink 182 = .ok (.aload_n 0, 1) := by decide +kernel
theorem dX9_sink_183 : decode cX9_sink 183 = .ok (.getfield 69, 3) := by decide +kernel
theorem dX9_sink_186 : decode cX9_sink 186 = .ok (.sipush 3000, 3) := by decide +kernel
theorem dX9_sink_189 : decode cX9_sink 189 = .ok (.iload_n 1, 1) := by decide +kernel
theorem dX9_sink_19 : decode cX9_sink 19 = .ok (.iload 4, 2) := by decide +kernel
theorem dX9_sink_190 : decode cX9_sink 190 = .ok (.imul, 1) := by decide +kernel
theorem dX9_sink_191 : decode cX9_sink 191 = .ok (.iload 4, 2) := by decide +kernel
theorem dX9_sink_193 : decode cX9_sink 193 = .ok (.iadd, 1) := by decide +kernel
theorem dX9_sink_194 : decode cX9_sink 194 = .ok (.iload 5, 2) := by decide +kernel
theorem dX9_sink_196 : decode cX9_sink 196 = .ok (.iastore, 1) := by decide +kernel
theorem dX9_sink_197 : decode cX9_sink 197 = .ok (.return_, 1) := by decide +kernel
theorem dX9_sink_21 : decode cX9_sink 21 = .ok (.imul, 1) := by decide +kernel
theorem dX9_sink_22 : decode cX9_sink 22 = .ok (.iconst 1, 1) := by decide +kernel
theorem dX9_sink_23 : decode cX9_sink 23 = .ok (.iadd, 1) := by decide +kernel
theorem dX9_sink_24 : decode cX9_sink 24 = .ok (.iload_n 3, 1) := by decide +kernel
theorem dX9_sink_25 : decode cX9_sink 25 = .ok (.if_icmp .ge 7, 3) := by decide +kernel
theorem dX9_sink_28 : decode cX9_sink 28 = .ok (.iconst 1, 1) := by decide +kernel
theorem dX9_sink_29 : decode cX9_sink 29 = .ok (.goto 4, 3) := by decide +kernel
theorem dX9_sink_3 : decode cX9_sink 3 = .ok (.aload_n 0, 1) := by decide +kernel
theorem dX9_sink_32 : decode cX9_sink 32 = .ok (.iconst 0, 1) := by decide +kernel
theorem dX9_sink_33 : decode cX9_sink 33 = .ok (.istore 6, 2) := by decide +kernel
theorem dX9_sink_35 : decode cX9_sink 35 = .ok (.iload 6, 2) := by decide +kernel
theorem dX9_sink_37 : decode cX9_sink 37 = .ok (.ifCond .eq 145, 3) := by decide +kernel
theorem dX9_sink_4 : decode cX9_sink 4 = .ok (.getfield 69, 3) := by decide +kernel
theorem dX9_sink_40 : decode cX9_sink 40 = .ok (.iconst 2, 1) := by decide +kernel
theorem dX9_sink_41 : decode cX9_sink 41 = .ok (.iload 4, 2) := by decide +kernel
theorem dX9_sink_43 : decode cX9_sink 43 = .ok (.imul, 1) := by decide +kernel
theorem dX9_sink_44 : decode cX9_sink 44 = .ok (.iconst 1, 1) := by decide +kernel
theorem dX9_sink_45 : decode cX9_sink 45 = .ok (.iadd, 1) := by decide +kernel
theorem dX9_sink_46 : decode cX9_sink 46 = .ok (.istore 7, 2) := by decide +kernel
theorem dX9_sink_48 : decode cX9_sink 48 = .ok (.iload 7, 2) := by decide +kernel
theorem dX9_sink_50 : decode cX9_sink 50 = .ok (.iconst 1, 1) := by decide +kernel
theorem dX9_sink_51 : decode cX9_sink 51 = .ok (.iadd, 1) := by decide +kernel
theorem dX9_sink_52 : decode cX9_sink 52 = .ok (.iload_n 3, 1) := by decide +kernel
theorem dX9_sink_53 : decode cX9_sink 53 = .ok (.if_icmp .ge 43, 3) := by decide +kernel
theorem dX9_sink_56 : decode cX9_sink 56 = .ok (.aload_n 0, 1) := by decide +kernel
theorem dX9_sink_57 : decode cX9_sink 57 = .ok (.iload_n 1, 1) := by decide +kernel
theorem dX9_sink_58 : decode cX9_sink 58 = .ok (.aload_n 0, 1) := by decide +kernel
theorem dX9_sink_59 : decode cX9_sink 59 = .ok (.getfield 69, 3) := by decide +kernel
theorem dX9_sink_62 : decode cX9_sink 62 = .ok (.sipush 3000, 3) := by decide +kernel
theorem dX9_sink_65 : decode cX9_sink 65 = .ok (.iload_n 1, 1) := by decide +kernel
theorem dX9_sink_66 : decode cX9_sink 66 = .ok (.imul, 1) := by decide +kernel
theorem dX9_sink_67 : decode cX9_sink 67 = .ok (.iload 7, 2) := by decide +kernel
theorem dX9_sink_69 : decode cX9_sink 69 = .ok (.iadd, 1) := by decide +kernel
theorem dX9_sink_7 : decode cX9_sink 7 = .ok (.sipush 3000, 3) := by decide +kernel
theorem dX9_sink_70 : decode cX9_sink 70 = .ok (.iconst 1, 1) := by decide +kernel
theorem dX9_sink_71 : decode cX9_sink 71 = .ok (.iadd, 1) := by decide +kernel
theorem dX9_sink_72 : decode cX9_sink 72 = .ok (.iaload, 1) := by decide +kernel
theorem dX9_sink_73 : decode cX9_sink 73 = .ok (.iload_n 1, 1) := by decide +kernel
theorem dX9_sink_74 : decode cX9_sink 74 = .ok (.aload_n 0, 1) := by decide +kernel
theorem dX9_sink_75 : decode cX9_sink 75 = .ok (.getfield 69, 3) := by decide +kernel
theorem dX9_sink_78 : decode cX9_sink 78 = .ok (.sipush 3000, 3) := by decide +kernel
theorem dX9_sink_81 : decode cX9_sink 81 = .ok (.iload_n 1, 1) := by decide +kernel
theorem dX9_sink_82 : decode cX9_sink 82 = .ok (.imul, 1) := by decide +kernel
theorem dX9_sink_83 : decode cX9_sink 83 = .ok (.iload 7, 2) := by decide +kernel
theorem dX9_sink_85 : decode cX9_sink 85 = .ok (.iadd, 1) := by decide +kernel
theorem dX9_sink_86 : decode cX9_sink 86 = .ok (.iaload, 1) := by decide +kernel
theorem dX9_sink_87 : decode cX9_sink 87 = .ok (.invokevirtual 327, 3) := by decide +kernel
theorem dX9_sink_90 : decode cX9_sink 90 = .ok (.ifCond .le 6, 3) := by decide +kernel
theorem dX9_sink_93 : decode cX9_sink 93 = .ok (.iinc 7 1, 3) := by decide +kernel
theorem dX9_sink_96 : decode cX9_sink 96 = .ok (.aload_n 0, 1) := by decide +kernel
theorem dX9_sink_97 : decode cX9_sink 97 = .ok (.iload_n 1, 1) := by decide +kernel
theorem dX9_sink_98 : decode cX9_sink 98 = .ok (.aload_n 0, 1) := by decide +kernel
theorem dX9_sink_99 : decode cX9_sink 99 = .ok (.getfield 69, 3) := by decide +kernel
theorem dX9_sortEnds_0 : decode cX9_sortEnds 0 = .ok (.aload_n 0, 1) := by decide +kernel
theorem dX9_sortEnds_1 : decode cX9_sortEnds 1 = .ok (.getfield 72, 3) := by decide +kernel
theorem dX9_sortEnds_10 : decode cX9_sortEnds 10 = .ok (.istore_n 3, 1) := by decide +kernel
theorem dX9_sortEnds_101 : decode cX9_sortEnds 101 = .ok (.return_, 1) := by decide +kernel
theorem dX9_sortEnds_11 : decode cX9_sortEnds 11 = .ok (.iload_n 3, 1) := by decide +kernel
theorem dX9_sortEnds_12 : decode cX9_sortEnds 12 = .ok (.ifCond .lt 20, 3) := by decide +kernel
theorem dX9_sortEnds_15 : decode cX9_sortEnds 15 = .ok (.iload_n 2, 1) := by decide +kernel
theorem dX9_sortEnds_16 : decode cX9_sortEnds 16 = .ok (.ifCond .le 16, 3) := by decide +kernel
theorem dX9_sortEnds_19 : decode cX9_sortEnds 19 = .ok (.aload_n 0, 1) := by decide +kernel
theorem dX9_sortEnds_20 : decode cX9_sortEnds 20 = .ok (.iload_n 1, 1) := by decide +kernel
theorem dX9_sortEnds_21 : decode cX9_sortEnds 21 = .ok (.iload_n 3, 1) := by decide +kernel
theorem dX9_sortEnds_22 : decode cX9_sortEnds 22 = .ok (.iload_n 2, 1) := by decide +kernel
theorem dX9_sortEnds_23 : decode cX9_sortEnds 23 = .ok (.invokevirtual 331, 3) := by decide +kernel
theorem dX9_sortEnds_26 : decode cX9_sortEnds 26 = .ok (.iinc 3 (-1), 3) := by decide +kernel
theorem dX9_sortEnds_29 : decode cX9_sortEnds 29 = .ok (.goto (-18), 3) := by decide +kernel
theorem dX9_sortEnds_32 : decode cX9_sortEnds 32 = .ok (.iload_n 2, 1) := by decide +kernel
theorem dX9_sortEnds_33 : decode cX9_sortEnds 33 = .ok (.iconst 1, 1) := by decide +kernel
theorem dX9_sortEnds_34 : decode cX9_sortEnds 34 = .ok (.isub, 1) := by decide +kernel
theorem dX9_sortEnds_35 : decode cX9_sortEnds 35 = .ok (.istore_n 3, 1) := by decide +kernel
theorem dX9_sortEnds_36 : decode cX9_sortEnds 36 = .ok (.iload_n 3, 1) := by decide +kernel
theorem dX9_sortEnds_37 : decode cX9_sortEnds 37 = .ok (.ifCond .le 64, 3) := by decide +kernel
theorem dX9_sortEnds_4 : decode cX9_sortEnds 4 = .ok (.iload_n 1, 1) := by decide +kernel
theorem dX9_sortEnds_40 : decode cX9_sortEnds 40 = .ok (.aload_n 0, 1) := by decide +kernel
theorem dX9_sortEnds_41 : decode cX9_sortEnds 41 = .ok (.getfield 69, 3) := by decide +kernel
theorem dX9_sortEnds_44 : decode cX9_sortEnds 44 = .ok (.sipush 3000, 3) := by decide +kernel
theorem dX9_sortEnds_47 : decode cX9_sortEnds 47 = .ok (.iload_n 1, 1) := by decide +kernel
theorem dX9_sortEnds_48 : decode cX9_sortEnds 48 = .ok (.imul, 1) := by decide +kernel
theorem dX9_sortEnds_49 : decode cX9_sortEnds 49 = .ok (.iload_n 3, 1) := by decide +kernel
theorem dX9_sortEnds_5 : decode cX9_sortEnds 5 = .ok (.iaload, 1) := by decide +kernel
theorem dX9_sortEnds_50 : decode cX9_sortEnds 50 = .ok (.iadd, 1) := by decide +kernel
theorem dX9_sortEnds_51 : decode cX9_sortEnds 51 = .ok (.iaload, 1) := by decide +kernel
theorem dX9_sortEnds_52 : decode cX9_sortEnds 52 = .ok (.istore 4, 2) := by decide +kernel
theorem dX9_sortEnds_54 : decode cX9_sortEnds 54 = .ok (.aload_n 0, 1) := by decide +kernel
theorem dX9_sortEnds_55 : decode cX9_sortEnds 55 = .ok (.getfield 69, 3) := by decide +kernel
theorem dX9_sortEnds_58 : decode cX9_sortEnds 58 = .ok (.sipush 3000, 3) := by decide +kernel
theorem dX9_sortEnds_6 : decode cX9_sortEnds 6 = .ok (.istore_n 2, 1) := by decide +kernel
theorem dX9_sortEnds_61 : decode cX9_sortEnds 61 = .ok (.iload_n 1, 1) := by decide +kernel
theorem dX9_sortEnds_62 : decode cX9_sortEnds 62 = .ok (.imul, 1) := by decide +kernel
theorem dX9_sortEnds_63 : decode cX9_sortEnds 63 = .ok (.iload_n 3, 1) := by decide +kernel
theorem dX9_sortEnds_64 : decode cX9_sortEnds 64 = .ok (.iadd, 1) := by decide +kernel
theorem dX9_sortEnds_65 : decode cX9_sortEnds 65 = .ok (.aload_n 0, 1) := by decide +kernel
theorem dX9_sortEnds_66 : decode cX9_sortEnds 66 = .ok (.getfield 69, 3) := by decide +kernel
theorem dX9_sortEnds_69 : decode cX9_sortEnds 69 = .ok (.sipush 3000, 3) := by decide +kernel
theorem dX9_sortEnds_7 : decode cX9_sortEnds 7 = .ok (.iload_n 2, 1) := by decide +kernel
theorem dX9_sortEnds_72 : decode cX9_sortEnds 72 = .ok (.iload_n 1, 1) := by decide +kernel
theorem dX9_sortEnds_73 : decode cX9_sortEnds 73 = .ok (.imul, 1) := by decide +kernel
theorem dX9_sortEnds_74 : decode cX9_sortEnds 74 = .ok (.iaload, 1) := by decide +kernel
theorem dX9_sortEnds_75 : decode cX9_sortEnds 75 = .ok (.iastore, 1) := by decide +kernel
theorem dX9_sortEnds_76 : decode cX9_sortEnds 76 = .ok (.aload_n 0, 1) := by decide +kernel
theorem dX9_sortEnds_77 : decode cX9_sortEnds 77 = .ok (.getfield 69, 3) := by decide +kernel
theorem dX9_sortEnds_8 : decode cX9_sortEnds 8 = .ok (.iconst 2, 1) := by decide +kernel
theorem dX9_sortEnds_80 : decode cX9_sortEnds 80 = .ok (.sipush 3000, 3) := by decide +kernel
theorem dX9_sortEnds_83 : decode cX9_sortEnds 83 = .ok (.iload_n 1, 1) := by decide +kernel
theorem dX9_sortEnds_84 : decode cX9_sortEnds 84 = .ok (.imul, 1) := by decide +kernel
theorem dX9_sortEnds_85 : decode cX9_sortEnds 85 = .ok (.iload 4, 2) := by decide +kernel
theorem dX9_sortEnds_87 : decode cX9_sortEnds 87 = .ok (.iastore, 1) := by decide +kernel
theorem dX9_sortEnds_88 : decode cX9_sortEnds 88 = .ok (.aload_n 0, 1) := by decide +kernel
theorem dX9_sortEnds_89 : decode cX9_sortEnds 89 = .ok (.iload_n 1, 1) := by decide +kernel
theorem dX9_sortEnds_9 : decode cX9_sortEnds 9 = .ok (.idiv, 1) := by decide +kernel
theorem dX9_sortEnds_90 : decode cX9_sortEnds 90 = .ok (.iconst 0, 1) := by decide +kernel
theorem dX9_sortEnds_91 : decode cX9_sortEnds 91 = .ok (.iload_n 3, 1) := by decide +kernel
theorem dX9_sortEnds_92 : decode cX9_sortEnds 92 = .ok (.invokevirtual 331, 3) := by decide +kernel
theorem dX9_sortEnds_95 : decode cX9_sortEnds 95 = .ok (.iinc 3 (-1), 3) := by decide +kernel
theorem dX9_sortEnds_98 : decode cX9_sortEnds 98 = .ok (.goto (-62), 3) := by decide +kernel
/-- the ends of slot s: numbers below sz, and nothing else is changed -/
def gEz (g : Nat → Int32) (b n sz : Nat) : Prop := ∀ i, i < n → ∃ e, e < sz ∧ g (b + i) = nI e
theorem gEz_u {g : Nat → Int32} {b n sz k a e : Nat} (h : gEz g b n sz) (ha : a = b + k) (he : e < sz) : gEz (upd g a (nI e)) b n sz := by
  subst ha
  intro i hi
  by_cases q : i = k
  · subst q; exact ⟨e, he, pk_us⟩
  · rw [pk_un (by omega)]; exact h i hi
theorem gEz_le {g : Nat → Int32} {b n k sz : Nat} (h : gEz g b n sz) (hk : k ≤ n) : gEz g b k sz := fun i hi => h i (by omega)
theorem gEz_sz {g : Nat → Int32} {b n sz s2 : Nat} (h : gEz g b n sz) (hk : sz ≤ s2) : gEz g b n s2 := fun i hi => by
  obtain ⟨e, h1, h2⟩ := h i hi
  exact ⟨e, by omega, h2⟩
theorem gEz_s {g : Nat → Int32} {b n sz a e : Nat} (h : gEz g b n sz) (ha : a = b + n) (he : e < sz) : gEz (upd g a (nI e)) b (n + 1) sz := by
  subst ha
  intro i hi
  by_cases q : i = n
  · subst q; exact ⟨e, he, pk_us⟩
  · rw [pk_un (by omega)]; exact h i (by omega)
def gFm (g f : Nat → Int32) (b n : Nat) : Prop := ∀ j, (j < b ∨ b + n ≤ j) → g j = f j
theorem gFm_0 {f : Nat → Int32} {b n : Nat} : gFm f f b n := fun _ _ => rfl
theorem gFm_u {g f : Nat → Int32} {b n a : Nat} {x : Int32} (h : gFm g f b n) (h1 : b ≤ a) (h2 : a < b + n) : gFm (upd g a x) f b n := fun j hj => by
  rw [pk_un (by omega)]
  exact h j hj
theorem gFm_t {f g h : Nat → Int32} {b n k : Nat} (h1 : gFm g f b n) (h2 : gFm h g b k) (hk : k ≤ n) : gFm h f b n := fun j hj => (h2 j (by omega)).trans (h1 j hj)
theorem gEz_fm {g h : Nat → Int32} {b n k sz : Nat} (hE : gEz g b n sz) (hF : gFm h g b k) (hk : gEz h b k sz) : gEz h b n sz := fun i hi => by
  by_cases q : i < k
  · exact hk i q
  · obtain ⟨e, h1, h2⟩ := hE i hi
    exact ⟨e, h1, (hF (b + i) (by omega)).trans h2⟩