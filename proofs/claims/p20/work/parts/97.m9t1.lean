theorem dX9_core_0 : decode cX9_core 0 = .ok (.aload_n 0, 1) := by decide +kernel
theorem dX9_core_1 : decode cX9_core 1 = .ok (.getfield 7, 3) := by decide +kernel
theorem dX9_core_100 : decode cX9_core 100 = .ok (.aload_n 0, 1) := by decide +kernel
theorem dX9_core_101 : decode cX9_core 101 = .ok (.getfield 22, 3) := by decide +kernel
theorem dX9_core_104 : decode cX9_core 104 = .ok (.aload_n 0, 1) := by decide +kernel
theorem dX9_core_105 : decode cX9_core 105 = .ok (.getfield 186, 3) := by decide +kernel
theorem dX9_core_108 : decode cX9_core 108 = .ok (.iconst (-1), 1) := by decide +kernel
theorem dX9_core_109 : decode cX9_core 109 = .ok (.iastore, 1) := by decide +kernel
theorem dX9_core_11 : decode cX9_core 11 = .ok (.ifCond .eq 12, 3) := by decide +kernel
theorem dX9_core_110 : decode cX9_core 110 = .ok (.aload_n 0, 1) := by decide +kernel
theorem dX9_core_111 : decode cX9_core 111 = .ok (.getfield 25, 3) := by decide +kernel
theorem dX9_core_114 : decode cX9_core 114 = .ok (.aload_n 0, 1) := by decide +kernel
theorem dX9_core_115 : decode cX9_core 115 = .ok (.getfield 186, 3) := by decide +kernel
theorem dX9_core_118 : decode cX9_core 118 = .ok (.iconst (-1), 1) := by decide +kernel
theorem dX9_core_119 : decode cX9_core 119 = .ok (.iastore, 1) := by decide +kernel
theorem dX9_core_120 : decode cX9_core 120 = .ok (.aload_n 0, 1) := by decide +kernel
theorem dX9_core_121 : decode cX9_core 121 = .ok (.getfield 28, 3) := by decide +kernel
theorem dX9_core_124 : decode cX9_core 124 = .ok (.aload_n 0, 1) := by decide +kernel
theorem dX9_core_125 : decode cX9_core 125 = .ok (.getfield 186, 3) := by decide +kernel
theorem dX9_core_128 : decode cX9_core 128 = .ok (.iconst 0, 1) := by decide +kernel
theorem dX9_core_129 : decode cX9_core 129 = .ok (.iastore, 1) := by decide +kernel
theorem dX9_core_130 : decode cX9_core 130 = .ok (.aload_n 0, 1) := by decide +kernel
theorem dX9_core_131 : decode cX9_core 131 = .ok (.getfield 31, 3) := by decide +kernel
theorem dX9_core_134 : decode cX9_core 134 = .ok (.aload_n 0, 1) := by decide +kernel
theorem dX9_core_135 : decode cX9_core 135 = .ok (.getfield 186, 3) := by decide +kernel
theorem dX9_core_138 : decode cX9_core 138 = .ok (.iconst (-1), 1) := by decide +kernel
theorem dX9_core_139 : decode cX9_core 139 = .ok (.iastore, 1) := by decide +kernel
theorem dX9_core_14 : decode cX9_core 14 = .ok (.aload_n 0, 1) := by decide +kernel
theorem dX9_core_140 : decode cX9_core 140 = .ok (.aload_n 0, 1) := by decide +kernel
theorem dX9_core_141 : decode cX9_core 141 = .ok (.getfield 34, 3) := by decide +kernel
theorem dX9_core_144 : decode cX9_core 144 = .ok (.aload_n 0, 1) := by decide +kernel
theorem dX9_core_145 : decode cX9_core 145 = .ok (.getfield 186, 3) := by decide +kernel
theorem dX9_core_148 : decode cX9_core 148 = .ok (.iconst 0, 1) := by decide +kernel
theorem dX9_core_149 : decode cX9_core 149 = .ok (.iastore, 1) := by decide +kernel
theorem dX9_core_15 : decode cX9_core 15 = .ok (.bipush 58, 2) := by decide +kernel
theorem dX9_core_150 : decode cX9_core 150 = .ok (.aload_n 0, 1) := by decide +kernel
theorem dX9_core_151 : decode cX9_core 151 = .ok (.getfield 37, 3) := by decide +kernel
theorem dX9_core_154 : decode cX9_core 154 = .ok (.aload_n 0, 1) := by decide +kernel
theorem dX9_core_155 : decode cX9_core 155 = .ok (.getfield 186, 3) := by decide +kernel
theorem dX9_core_158 : decode cX9_core 158 = .ok (.iconst 0, 1) := by decide +kernel
theorem dX9_core_159 : decode cX9_core 159 = .ok (.iastore, 1) := by decide +kernel
theorem dX9_core_160 : decode cX9_core 160 = .ok (.aload_n 0, 1) := by decide +kernel
theorem dX9_core_161 : decode cX9_core 161 = .ok (.getfield 95, 3) := by decide +kernel
theorem dX9_core_164 : decode cX9_core 164 = .ok (.iload_n 2, 1) := by decide +kernel
theorem dX9_core_165 : decode cX9_core 165 = .ok (.iconst (-1), 1) := by decide +kernel
theorem dX9_core_166 : decode cX9_core 166 = .ok (.iastore, 1) := by decide +kernel
theorem dX9_core_167 : decode cX9_core 167 = .ok (.aload_n 0, 1) := by decide +kernel
theorem dX9_core_168 : decode cX9_core 168 = .ok (.invokevirtual 164, 3) := by decide +kernel
theorem dX9_core_17 : decode cX9_core 17 = .ok (.invokevirtual 235, 3) := by decide +kernel
theorem dX9_core_171 : decode cX9_core 171 = .ok (.ifCond .eq 20, 3) := by decide +kernel
theorem dX9_core_174 : decode cX9_core 174 = .ok (.aload_n 0, 1) := by decide +kernel
theorem dX9_core_175 : decode cX9_core 175 = .ok (.iload_n 2, 1) := by decide +kernel
theorem dX9_core_176 : decode cX9_core 176 = .ok (.invokevirtual 247, 3) := by decide +kernel
theorem dX9_core_179 : decode cX9_core 179 = .ok (.ifCond .eq 12, 3) := by decide +kernel
theorem dX9_core_182 : decode cX9_core 182 = .ok (.aload_n 0, 1) := by decide +kernel
theorem dX9_core_183 : decode cX9_core 183 = .ok (.bipush 59, 2) := by decide +kernel
theorem dX9_core_185 : decode cX9_core 185 = .ok (.invokevirtual 235, 3) := by decide +kernel
theorem dX9_core_188 : decode cX9_core 188 = .ok (.ifCond .ne 5, 3) := by decide +kernel
theorem dX9_core_191 : decode cX9_core 191 = .ok (.iconst 0, 1) := by decide +kernel
theorem dX9_core_192 : decode cX9_core 192 = .ok (.ireturn, 1) := by decide +kernel
theorem dX9_core_193 : decode cX9_core 193 = .ok (.iinc 2 1, 3) := by decide +kernel
theorem dX9_core_196 : decode cX9_core 196 = .ok (.goto (-169), 3) := by decide +kernel
theorem dX9_core_199 : decode cX9_core 199 = .ok (.aload_n 0, 1) := by decide +kernel
theorem dX9_core_20 : decode cX9_core 20 = .ok (.ifCond .ne 5, 3) := by decide +kernel
theorem dX9_core_200 : decode cX9_core 200 = .ok (.ldc2_w 250, 3) := by decide +kernel
theorem dX9_core_203 : decode cX9_core 203 = .ok (.invokevirtual 252, 3) := by decide +kernel
theorem dX9_core_206 : decode cX9_core 206 = .ok (.ifCond .ne 5, 3) := by decide +kernel
theorem dX9_core_209 : decode cX9_core 209 = .ok (.iconst 0, 1) := by decide +kernel
theorem dX9_core_210 : decode cX9_core 210 = .ok (.ireturn, 1) := by decide +kernel
theorem dX9_core_211 : decode cX9_core 211 = .ok (.aload_n 0, 1) := by decide +kernel
theorem dX9_core_212 : decode cX9_core 212 = .ok (.getfield 13, 3) := by decide +kernel
theorem dX9_core_215 : decode cX9_core 215 = .ok (.iconst 3, 1) := by decide +kernel
theorem dX9_core_216 : decode cX9_core 216 = .ok (.iload_n 1, 1) := by decide +kernel
theorem dX9_core_217 : decode cX9_core 217 = .ok (.iadd, 1) := by decide +kernel
theorem dX9_core_218 : decode cX9_core 218 = .ok (.iload_n 2, 1) := by decide +kernel
theorem dX9_core_219 : decode cX9_core 219 = .ok (.iastore, 1) := by decide +kernel
theorem dX9_core_220 : decode cX9_core 220 = .ok (.iconst 0, 1) := by decide +kernel
theorem dX9_core_221 : decode cX9_core 221 = .ok (.istore_n 3, 1) := by decide +kernel
theorem dX9_core_222 : decode cX9_core 222 = .ok (.iload_n 3, 1) := by decide +kernel
theorem dX9_core_223 : decode cX9_core 223 = .ok (.iload_n 2, 1) := by decide +kernel
theorem dX9_core_224 : decode cX9_core 224 = .ok (.if_icmp .ge 50, 3) := by decide +kernel
theorem dX9_core_227 : decode cX9_core 227 = .ok (.aload_n 0, 1) := by decide +kernel
theorem dX9_core_228 : decode cX9_core 228 = .ok (.getfield 95, 3) := by decide +kernel
theorem dX9_core_23 : decode cX9_core 23 = .ok (.iconst 0, 1) := by decide +kernel
theorem dX9_core_231 : decode cX9_core 231 = .ok (.iload_n 3, 1) := by decide +kernel
theorem dX9_core_232 : decode cX9_core 232 = .ok (.iaload, 1) := by decide +kernel
theorem dX9_core_233 : decode cX9_core 233 = .ok (.ifCond .lt 35, 3) := by decide +kernel
theorem dX9_core_236 : decode cX9_core 236 = .ok (.aload_n 0, 1) := by decide +kernel
theorem dX9_core_237 : decode cX9_core 237 = .ok (.getfield 37, 3) := by decide +kernel
theorem dX9_core_24 : decode cX9_core 24 = .ok (.ireturn, 1) := by decide +kernel
theorem dX9_core_240 : decode cX9_core 240 = .ok (.bipush 36, 2) := by decide +kernel
theorem dX9_core_242 : decode cX9_core 242 = .ok (.bipush 12, 2) := by decide +kernel
theorem dX9_core_244 : decode cX9_core 244 = .ok (.iload_n 1, 1) := by decide +kernel
theorem dX9_core_245 : decode cX9_core 245 = .ok (.imul, 1) := by decide +kernel
theorem dX9_core_246 : decode cX9_core 246 = .ok (.iadd, 1) := by decide +kernel
theorem dX9_core_247 : decode cX9_core 247 = .ok (.iload_n 3, 1) := by decide +kernel
theorem dX9_core_248 : decode cX9_core 248 = .ok (.iadd, 1) := by decide +kernel
theorem dX9_core_249 : decode cX9_core 249 = .ok (.iaload, 1) := by decide +kernel
theorem dX9_core_25 : decode cX9_core 25 = .ok (.iconst 0, 1) := by decide +kernel
theorem dX9_core_250 : decode cX9_core 250 = .ok (.iload_n 2, 1) := by decide +kernel
theorem dX9_core_251 : decode cX9_core 251 = .ok (.iconst 1, 1) := by decide +kernel
theorem dX9_core_252 : decode cX9_core 252 = .ok (.isub, 1) := by decide +kernel
theorem dX9_core_253 : decode cX9_core 253 = .ok (.iload_n 3, 1) := by decide +kernel
theorem dX9_core_254 : decode cX9_core 254 = .ok (.isub, 1) := by decide +kernel
theorem dX9_core_255 : decode cX9_core 255 = .ok (.if_icmp .le 13, 3) := by decide +kernel
theorem dX9_core_258 : decode cX9_core 258 = .ok (.aload_n 0, 1) := by decide +kernel
theorem dX9_core_259 : decode cX9_core 259 = .ok (.aload_n 0, 1) := by decide +kernel
theorem dX9_core_26 : decode cX9_core 26 = .ok (.istore_n 2, 1) := by decide +kernel
theorem dX9_core_260 : decode cX9_core 260 = .ok (.getfield 95, 3) := by decide +kernel
theorem dX9_core_263 : decode cX9_core 263 = .ok (.iload_n 3, 1) := by decide +kernel
theorem dX9_core_264 : decode cX9_core 264 = .ok (.iaload, 1) := by decide +kernel
theorem dX9_core_265 : decode cX9_core 265 = .ok (.invokevirtual 183, 3) := by decide +kernel
theorem dX9_core_268 : decode cX9_core 268 = .ok (.iinc 3 1, 3) := by decide +kernel
theorem dX9_core_27 : decode cX9_core 27 = .ok (.aload_n 0, 1) := by decide +kernel
theorem dX9_core_271 : decode cX9_core 271 = .ok (.goto (-49), 3) := by decide +kernel
theorem dX9_core_274 : decode cX9_core 274 = .ok (.iconst 1, 1) := by decide +kernel
theorem dX9_core_275 : decode cX9_core 275 = .ok (.ireturn, 1) := by decide +kernel
theorem dX9_core_28 : decode cX9_core 28 = .ok (.getfield 137, 3) := by decide +kernel
theorem dX9_core_31 : decode cX9_core 31 = .ok (.iconst 1, 1) := by decide +kernel
theorem dX9_core_32 : decode cX9_core 32 = .ok (.if_icmp .ne 167, 3) := by decide +kernel
theorem dX9_core_35 : decode cX9_core 35 = .ok (.aload_n 0, 1) := by decide +kernel
theorem dX9_core_36 : decode cX9_core 36 = .ok (.getfield 133, 3) := by decide +kernel
theorem dX9_core_39 : decode cX9_core 39 = .ok (.invokestatic 243, 3) := by decide +kernel
theorem dX9_core_4 : decode cX9_core 4 = .ok (.iconst 1, 1) := by decide +kernel
theorem dX9_core_42 : decode cX9_core 42 = .ok (.ifCond .lt 157, 3) := by decide +kernel
theorem dX9_core_45 : decode cX9_core 45 = .ok (.iload_n 2, 1) := by decide +kernel
theorem dX9_core_46 : decode cX9_core 46 = .ok (.bipush 6, 2) := by decide +kernel
theorem dX9_core_48 : decode cX9_core 48 = .ok (.if_icmp .ne 13, 3) := by decide +kernel
theorem dX9_core_5 : decode cX9_core 5 = .ok (.iaload, 1) := by decide +kernel
theorem dX9_core_51 : decode cX9_core 51 = .ok (.aload_n 0, 1) := by decide +kernel
theorem dX9_core_52 : decode cX9_core 52 = .ok (.iconst 2, 1) := by decide +kernel
theorem dX9_core_53 : decode cX9_core 53 = .ok (.aload_n 0, 1) := by decide +kernel
theorem dX9_core_54 : decode cX9_core 54 = .ok (.getfield 130, 3) := by decide +kernel
theorem dX9_core_57 : decode cX9_core 57 = .ok (.invokevirtual 157, 3) := by decide +kernel
theorem dX9_core_6 : decode cX9_core 6 = .ok (.istore_n 1, 1) := by decide +kernel
theorem dX9_core_60 : decode cX9_core 60 = .ok (.ireturn, 1) := by decide +kernel
theorem dX9_core_61 : decode cX9_core 61 = .ok (.aload_n 0, 1) := by decide +kernel
theorem dX9_core_62 : decode cX9_core 62 = .ok (.bipush 36, 2) := by decide +kernel
theorem dX9_core_64 : decode cX9_core 64 = .ok (.bipush 12, 2) := by decide +kernel
theorem dX9_core_66 : decode cX9_core 66 = .ok (.iload_n 1, 1) := by decide +kernel
theorem dX9_core_67 : decode cX9_core 67 = .ok (.imul, 1) := by decide +kernel
theorem dX9_core_68 : decode cX9_core 68 = .ok (.iadd, 1) := by decide +kernel
theorem dX9_core_69 : decode cX9_core 69 = .ok (.iload_n 2, 1) := by decide +kernel
theorem dX9_core_7 : decode cX9_core 7 = .ok (.aload_n 0, 1) := by decide +kernel
theorem dX9_core_70 : decode cX9_core 70 = .ok (.iadd, 1) := by decide +kernel
theorem dX9_core_71 : decode cX9_core 71 = .ok (.putfield 186, 3) := by decide +kernel
theorem dX9_core_74 : decode cX9_core 74 = .ok (.aload_n 0, 1) := by decide +kernel
theorem dX9_core_75 : decode cX9_core 75 = .ok (.getfield 16, 3) := by decide +kernel
theorem dX9_core_78 : decode cX9_core 78 = .ok (.aload_n 0, 1) := by decide +kernel
theorem dX9_core_79 : decode cX9_core 79 = .ok (.getfield 186, 3) := by decide +kernel
theorem dX9_core_8 : decode cX9_core 8 = .ok (.invokevirtual 164, 3) := by decide +kernel
theorem dX9_core_82 : decode cX9_core 82 = .ok (.aload_n 0, 1) := by decide +kernel
theorem dX9_core_83 : decode cX9_core 83 = .ok (.getfield 133, 3) := by decide +kernel
theorem dX9_core_86 : decode cX9_core 86 = .ok (.invokestatic 243, 3) := by decide +kernel
theorem dX9_core_89 : decode cX9_core 89 = .ok (.iastore, 1) := by decide +kernel
theorem dX9_core_90 : decode cX9_core 90 = .ok (.aload_n 0, 1) := by decide +kernel
theorem dX9_core_91 : decode cX9_core 91 = .ok (.getfield 19, 3) := by decide +kernel
theorem dX9_core_94 : decode cX9_core 94 = .ok (.aload_n 0, 1) := by decide +kernel
theorem dX9_core_95 : decode cX9_core 95 = .ok (.getfield 186, 3) := by decide +kernel
theorem dX9_core_98 : decode cX9_core 98 = .ok (.iconst (-1), 1) := by decide +kernel
theorem dX9_core_99 : decode cX9_core 99 = .ok (.iastore, 1) := by decide +kernel
/-- n INS have been read to b -/
def gCr (kd cl rg u1 u2 sk sp : Nat → Int32) (fk : Int32) (b n : Nat) : Prop := ∀ i, i < n → ∃ q, q ≤ 8 ∧ kd (b + i) = nI q ∧ (fk = 0 → gI9 q cl rg u1 u2 (b + i)) ∧ (q = 8 → ∃ y c, y ≤ 999 ∧ sk (b + i) = nI y ∧ c ≤ 4000 ∧ sp i = nI c)
theorem gCr_0 {kd cl rg u1 u2 sk sp : Nat → Int32} {fk : Int32} {b : Nat} : gCr kd cl rg u1 u2 sk sp fk b 0 := fun i h => absurd h (Nat.not_lt_zero i)
theorem gCr_fk {kd cl rg u1 u2 sk sp : Nat → Int32} {fk fk' : Int32} {b n : Nat} (h : gCr kd cl rg u1 u2 sk sp fk b n) (hf : fk' = 0 → fk = 0) : gCr kd cl rg u1 u2 sk sp fk' b n := fun i hi => by
  obtain ⟨q, a, b, c, d⟩ := h i hi
  exact ⟨q, a, b, fun e => c (hf e), d⟩
theorem gCr_s {kd cl rg u1 u2 sk sp kd' cl' rg' u1' u2' sk' sp' : Nat → Int32} {fk fk' : Int32} {b n q pl : Nat} (h : gCr kd cl rg u1 u2 sk sp fk b n) (hpl : pl = b + n) (hq : q ≤ 8) (ek : kd' pl = nI q) (hg : (fk' = 0 → gI9 q cl' rg' u1' u2' pl) ∧ (q = 8 → ∃ y c, y ≤ 999 ∧ sk' pl = nI y ∧ c ≤ 4000 ∧ sp' n = nI c)) (hf : fk' = 0 → fk = 0) (e0 : ∀ j, j ≠ pl → kd' j = kd j) (e1 : ∀ j, j ≠ pl → cl' j = cl j) (e2 : ∀ j, j ≠ pl → rg' j = rg j) (e3 : ∀ j, j ≠ pl → u1' j = u1 j) (e4 : ∀ j, j ≠ pl → u2' j = u2 j) (e5 : ∀ j, j ≠ pl → sk' j = sk j) (e6 : ∀ j, j ≠ n → sp' j = sp j) : gCr kd' cl' rg' u1' u2' sk' sp' fk' b (n + 1) := by
  subst hpl
  intro i hi
  by_cases e : i = n
  · subst e; exact ⟨q, hq, ek, hg.1, hg.2⟩
  · obtain ⟨q, a, b, c, d⟩ := h i (by omega)
    refine ⟨q, a, by rw [e0 _ (by omega)]; exact b, fun z => gI9_ext (c (hf z)) (e1 _ (by omega)) (e2 _ (by omega)) (e3 _ (by omega)) (e4 _ (by omega)), fun z => ?_⟩
    obtain ⟨y, c, h1, h2, h3, h4⟩ := d z
    exact ⟨y, c, h1, by rw [e5 _ (by omega)]; exact h2, h3, by rw [e6 _ (by omega)]; exact h4⟩
def gSk (kd sk : Nat → Int32) (fk : Int32) (b n i : Nat) : Prop := fk = 0 → ∀ j, j < i → kd (b + j) = 8 → ∃ y, y ≤ 11 ∧ sk (b + j) = nI y ∧ j + 1 + y ≤ n
theorem gSk_l {kd cl rg u1 u2 sk sp : Nat → Int32} {fk fk0 : Int32} {b n i : Nat} (h : gSk kd sk fk b n i) (hc : gCr kd cl rg u1 u2 sk sp fk0 b n) (hi : i < n) (hl : sp i < 0) : gSk kd sk fk b n (i + 1) := by
  intro hf j hj h8
  by_cases e : j = i
  · subst e
    obtain ⟨q, a, b, _, d⟩ := hc j hi
    have hq : q = 8 := (nI_eq (by omega) (by decide)).mp (b.symm.trans h8)
    obtain ⟨y, c, _, _, h3, h4⟩ := d hq
    rw [h4] at hl
    exact absurd hl (nI_pos (by omega))
  · exact h hf j (by omega) h8
theorem gSk_c {kd cl rg u1 u2 sk sp : Nat → Int32} {fk fk0 : Int32} {b n i m : Nat} (h : gSk kd sk fk b n i) (hc : gCr kd cl rg u1 u2 sk sp fk0 b n) (hi : i < n) (hn : n ≤ 6) (hm : m = n - 1 - i) (hl : sk (b + i) ≤ nI m) : gSk kd sk fk b n (i + 1) := by
  intro hf j hj h8
  by_cases e : j = i
  · subst e
    obtain ⟨q, a, b, _, d⟩ := hc j hi
    have hq : q = 8 := (nI_eq (by omega) (by decide)).mp (b.symm.trans h8)
    obtain ⟨y, c, h1, h2, _, _⟩ := d hq
    rw [h2] at hl
    have := (nI_leI (a := y) (b := m) (by omega) (by omega)).mp hl
    exact ⟨y, by omega, h2, by omega⟩
  · exact h hf j (by omega) h8
theorem gPk_r {kd cl rg u1 u2 sk sp : Nat → Int32} {fk fk0 : Int32} {b n : Nat} (hc : gCr kd cl rg u1 u2 sk sp fk0 b n) (h : gSk kd sk fk b n n) (h0 : fk = 0) (h1 : fk0 = 0) (hn : n ≤ 6) : gPk kd cl rg u1 u2 sk b n := by
  refine ⟨by omega, Nat.le_trans gCn_le hn, fun i hi => ?_⟩
  obtain ⟨q, a, b, c, d⟩ := hc i hi
  exact ⟨q, a, b, c h1, fun e => h h0 i hi (by rw [b, e]; rfl)⟩
theorem gFm_ne {f g h : Nat → Int32} {b n a : Nat} (h1 : gFm g f b n) (h2 : ∀ j, j ≠ a → h j = g j) (ha : b ≤ a) (hb : a < b + n) : gFm h f b n := fun j hj => (h2 j (by omega)).trans (h1 j hj)