theorem dX9_fenced_0 : decode cX9_fenced 0 = .ok (.aload_n 0, 1) := by decide +kernel
theorem dX9_fenced_1 : decode cX9_fenced 1 = .ok (.getfield 7, 3) := by decide +kernel
theorem dX9_fenced_10 : decode cX9_fenced 10 = .ok (.iaload, 1) := by decide +kernel
theorem dX9_fenced_100 : decode cX9_fenced 100 = .ok (.getfield 19, 3) := by decide +kernel
theorem dX9_fenced_103 : decode cX9_fenced 103 = .ok (.bipush 72, 2) := by decide +kernel
theorem dX9_fenced_105 : decode cX9_fenced 105 = .ok (.bipush 12, 2) := by decide +kernel
theorem dX9_fenced_107 : decode cX9_fenced 107 = .ok (.iload_n 3, 1) := by decide +kernel
theorem dX9_fenced_108 : decode cX9_fenced 108 = .ok (.imul, 1) := by decide +kernel
theorem dX9_fenced_109 : decode cX9_fenced 109 = .ok (.iadd, 1) := by decide +kernel
theorem dX9_fenced_11 : decode cX9_fenced 11 = .ok (.iastore, 1) := by decide +kernel
theorem dX9_fenced_110 : decode cX9_fenced 110 = .ok (.iload 4, 2) := by decide +kernel
theorem dX9_fenced_112 : decode cX9_fenced 112 = .ok (.iadd, 1) := by decide +kernel
theorem dX9_fenced_113 : decode cX9_fenced 113 = .ok (.iconst (-1), 1) := by decide +kernel
theorem dX9_fenced_114 : decode cX9_fenced 114 = .ok (.iastore, 1) := by decide +kernel
theorem dX9_fenced_115 : decode cX9_fenced 115 = .ok (.aload_n 0, 1) := by decide +kernel
theorem dX9_fenced_116 : decode cX9_fenced 116 = .ok (.getfield 22, 3) := by decide +kernel
theorem dX9_fenced_119 : decode cX9_fenced 119 = .ok (.bipush 72, 2) := by decide +kernel
theorem dX9_fenced_12 : decode cX9_fenced 12 = .ok (.iconst 0, 1) := by decide +kernel
theorem dX9_fenced_121 : decode cX9_fenced 121 = .ok (.bipush 12, 2) := by decide +kernel
theorem dX9_fenced_123 : decode cX9_fenced 123 = .ok (.iload_n 3, 1) := by decide +kernel
theorem dX9_fenced_124 : decode cX9_fenced 124 = .ok (.imul, 1) := by decide +kernel
theorem dX9_fenced_125 : decode cX9_fenced 125 = .ok (.iadd, 1) := by decide +kernel
theorem dX9_fenced_126 : decode cX9_fenced 126 = .ok (.iload 4, 2) := by decide +kernel
theorem dX9_fenced_128 : decode cX9_fenced 128 = .ok (.iadd, 1) := by decide +kernel
theorem dX9_fenced_129 : decode cX9_fenced 129 = .ok (.iconst (-1), 1) := by decide +kernel
theorem dX9_fenced_13 : decode cX9_fenced 13 = .ok (.istore_n 3, 1) := by decide +kernel
theorem dX9_fenced_130 : decode cX9_fenced 130 = .ok (.iastore, 1) := by decide +kernel
theorem dX9_fenced_131 : decode cX9_fenced 131 = .ok (.aload_n 0, 1) := by decide +kernel
theorem dX9_fenced_132 : decode cX9_fenced 132 = .ok (.getfield 25, 3) := by decide +kernel
theorem dX9_fenced_135 : decode cX9_fenced 135 = .ok (.bipush 72, 2) := by decide +kernel
theorem dX9_fenced_137 : decode cX9_fenced 137 = .ok (.bipush 12, 2) := by decide +kernel
theorem dX9_fenced_139 : decode cX9_fenced 139 = .ok (.iload_n 3, 1) := by decide +kernel
theorem dX9_fenced_14 : decode cX9_fenced 14 = .ok (.iload_n 3, 1) := by decide +kernel
theorem dX9_fenced_140 : decode cX9_fenced 140 = .ok (.imul, 1) := by decide +kernel
theorem dX9_fenced_141 : decode cX9_fenced 141 = .ok (.iadd, 1) := by decide +kernel
theorem dX9_fenced_142 : decode cX9_fenced 142 = .ok (.iload 4, 2) := by decide +kernel
theorem dX9_fenced_144 : decode cX9_fenced 144 = .ok (.iadd, 1) := by decide +kernel
theorem dX9_fenced_145 : decode cX9_fenced 145 = .ok (.iconst (-1), 1) := by decide +kernel
theorem dX9_fenced_146 : decode cX9_fenced 146 = .ok (.iastore, 1) := by decide +kernel
theorem dX9_fenced_147 : decode cX9_fenced 147 = .ok (.aload_n 0, 1) := by decide +kernel
theorem dX9_fenced_148 : decode cX9_fenced 148 = .ok (.getfield 31, 3) := by decide +kernel
theorem dX9_fenced_15 : decode cX9_fenced 15 = .ok (.iconst 3, 1) := by decide +kernel
theorem dX9_fenced_151 : decode cX9_fenced 151 = .ok (.bipush 72, 2) := by decide +kernel
theorem dX9_fenced_153 : decode cX9_fenced 153 = .ok (.bipush 12, 2) := by decide +kernel
theorem dX9_fenced_155 : decode cX9_fenced 155 = .ok (.iload_n 3, 1) := by decide +kernel
theorem dX9_fenced_156 : decode cX9_fenced 156 = .ok (.imul, 1) := by decide +kernel
theorem dX9_fenced_157 : decode cX9_fenced 157 = .ok (.iadd, 1) := by decide +kernel
theorem dX9_fenced_158 : decode cX9_fenced 158 = .ok (.iload 4, 2) := by decide +kernel
theorem dX9_fenced_16 : decode cX9_fenced 16 = .ok (.if_icmp .ge 215, 3) := by decide +kernel
theorem dX9_fenced_160 : decode cX9_fenced 160 = .ok (.iadd, 1) := by decide +kernel
theorem dX9_fenced_161 : decode cX9_fenced 161 = .ok (.iconst (-1), 1) := by decide +kernel
theorem dX9_fenced_162 : decode cX9_fenced 162 = .ok (.iastore, 1) := by decide +kernel
theorem dX9_fenced_163 : decode cX9_fenced 163 = .ok (.iinc 4 1, 3) := by decide +kernel
theorem dX9_fenced_166 : decode cX9_fenced 166 = .ok (.aload_n 0, 1) := by decide +kernel
theorem dX9_fenced_167 : decode cX9_fenced 167 = .ok (.bipush 12, 2) := by decide +kernel
theorem dX9_fenced_169 : decode cX9_fenced 169 = .ok (.iload_n 3, 1) := by decide +kernel
theorem dX9_fenced_170 : decode cX9_fenced 170 = .ok (.imul, 1) := by decide +kernel
theorem dX9_fenced_171 : decode cX9_fenced 171 = .ok (.iload 6, 2) := by decide +kernel
theorem dX9_fenced_173 : decode cX9_fenced 173 = .ok (.iadd, 1) := by decide +kernel
theorem dX9_fenced_174 : decode cX9_fenced 174 = .ok (.bipush 72, 2) := by decide +kernel
theorem dX9_fenced_176 : decode cX9_fenced 176 = .ok (.bipush 12, 2) := by decide +kernel
theorem dX9_fenced_178 : decode cX9_fenced 178 = .ok (.iload_n 3, 1) := by decide +kernel
theorem dX9_fenced_179 : decode cX9_fenced 179 = .ok (.imul, 1) := by decide +kernel
theorem dX9_fenced_180 : decode cX9_fenced 180 = .ok (.iadd, 1) := by decide +kernel
theorem dX9_fenced_181 : decode cX9_fenced 181 = .ok (.iload 4, 2) := by decide +kernel
theorem dX9_fenced_183 : decode cX9_fenced 183 = .ok (.iadd, 1) := by decide +kernel
theorem dX9_fenced_184 : decode cX9_fenced 184 = .ok (.invokevirtual 264, 3) := by decide +kernel
theorem dX9_fenced_187 : decode cX9_fenced 187 = .ok (.iinc 4 1, 3) := by decide +kernel
theorem dX9_fenced_19 : decode cX9_fenced 19 = .ok (.iconst 0, 1) := by decide +kernel
theorem dX9_fenced_190 : decode cX9_fenced 190 = .ok (.iinc 6 1, 3) := by decide +kernel
theorem dX9_fenced_193 : decode cX9_fenced 193 = .ok (.goto (-146), 3) := by decide +kernel
theorem dX9_fenced_196 : decode cX9_fenced 196 = .ok (.aload_n 0, 1) := by decide +kernel
theorem dX9_fenced_197 : decode cX9_fenced 197 = .ok (.getfield 113, 3) := by decide +kernel
theorem dX9_fenced_20 : decode cX9_fenced 20 = .ok (.istore 4, 2) := by decide +kernel
theorem dX9_fenced_200 : decode cX9_fenced 200 = .ok (.iload 5, 2) := by decide +kernel
theorem dX9_fenced_202 : decode cX9_fenced 202 = .ok (.iload 4, 2) := by decide +kernel
theorem dX9_fenced_204 : decode cX9_fenced 204 = .ok (.iastore, 1) := by decide +kernel
theorem dX9_fenced_205 : decode cX9_fenced 205 = .ok (.aload_n 0, 1) := by decide +kernel
theorem dX9_fenced_206 : decode cX9_fenced 206 = .ok (.getfield 13, 3) := by decide +kernel
theorem dX9_fenced_209 : decode cX9_fenced 209 = .ok (.bipush 6, 2) := by decide +kernel
theorem dX9_fenced_211 : decode cX9_fenced 211 = .ok (.iload_n 3, 1) := by decide +kernel
theorem dX9_fenced_212 : decode cX9_fenced 212 = .ok (.iadd, 1) := by decide +kernel
theorem dX9_fenced_213 : decode cX9_fenced 213 = .ok (.iload 4, 2) := by decide +kernel
theorem dX9_fenced_215 : decode cX9_fenced 215 = .ok (.iastore, 1) := by decide +kernel
theorem dX9_fenced_216 : decode cX9_fenced 216 = .ok (.aload_n 0, 1) := by decide +kernel
theorem dX9_fenced_217 : decode cX9_fenced 217 = .ok (.iload_n 3, 1) := by decide +kernel
theorem dX9_fenced_218 : decode cX9_fenced 218 = .ok (.iload 5, 2) := by decide +kernel
theorem dX9_fenced_22 : decode cX9_fenced 22 = .ok (.iload_n 3, 1) := by decide +kernel
theorem dX9_fenced_220 : decode cX9_fenced 220 = .ok (.iload_n 1, 1) := by decide +kernel
theorem dX9_fenced_221 : decode cX9_fenced 221 = .ok (.iload_n 2, 1) := by decide +kernel
theorem dX9_fenced_222 : decode cX9_fenced 222 = .ok (.invokevirtual 387, 3) := by decide +kernel
theorem dX9_fenced_225 : decode cX9_fenced 225 = .ok (.iinc 3 1, 3) := by decide +kernel
theorem dX9_fenced_228 : decode cX9_fenced 228 = .ok (.goto (-214), 3) := by decide +kernel
theorem dX9_fenced_23 : decode cX9_fenced 23 = .ok (.aload_n 0, 1) := by decide +kernel
theorem dX9_fenced_231 : decode cX9_fenced 231 = .ok (.return_, 1) := by decide +kernel
theorem dX9_fenced_24 : decode cX9_fenced 24 = .ok (.getfield 7, 3) := by decide +kernel
theorem dX9_fenced_27 : decode cX9_fenced 27 = .ok (.iconst 0, 1) := by decide +kernel
theorem dX9_fenced_28 : decode cX9_fenced 28 = .ok (.iaload, 1) := by decide +kernel
theorem dX9_fenced_29 : decode cX9_fenced 29 = .ok (.if_icmp .ge 12, 3) := by decide +kernel
theorem dX9_fenced_32 : decode cX9_fenced 32 = .ok (.aload_n 0, 1) := by decide +kernel
theorem dX9_fenced_33 : decode cX9_fenced 33 = .ok (.getfield 13, 3) := by decide +kernel
theorem dX9_fenced_36 : decode cX9_fenced 36 = .ok (.iload_n 3, 1) := by decide +kernel
theorem dX9_fenced_37 : decode cX9_fenced 37 = .ok (.iaload, 1) := by decide +kernel
theorem dX9_fenced_38 : decode cX9_fenced 38 = .ok (.goto 4, 3) := by decide +kernel
theorem dX9_fenced_4 : decode cX9_fenced 4 = .ok (.iconst 2, 1) := by decide +kernel
theorem dX9_fenced_41 : decode cX9_fenced 41 = .ok (.iconst 0, 1) := by decide +kernel
theorem dX9_fenced_42 : decode cX9_fenced 42 = .ok (.istore 5, 2) := by decide +kernel
theorem dX9_fenced_44 : decode cX9_fenced 44 = .ok (.iconst 0, 1) := by decide +kernel
theorem dX9_fenced_45 : decode cX9_fenced 45 = .ok (.istore 6, 2) := by decide +kernel
theorem dX9_fenced_47 : decode cX9_fenced 47 = .ok (.iload 6, 2) := by decide +kernel
theorem dX9_fenced_49 : decode cX9_fenced 49 = .ok (.iload 5, 2) := by decide +kernel
theorem dX9_fenced_5 : decode cX9_fenced 5 = .ok (.aload_n 0, 1) := by decide +kernel
theorem dX9_fenced_51 : decode cX9_fenced 51 = .ok (.if_icmp .ge 145, 3) := by decide +kernel
theorem dX9_fenced_54 : decode cX9_fenced 54 = .ok (.aload_n 0, 1) := by decide +kernel
theorem dX9_fenced_55 : decode cX9_fenced 55 = .ok (.getfield 113, 3) := by decide +kernel
theorem dX9_fenced_58 : decode cX9_fenced 58 = .ok (.iload 6, 2) := by decide +kernel
theorem dX9_fenced_6 : decode cX9_fenced 6 = .ok (.getfield 7, 3) := by decide +kernel
theorem dX9_fenced_60 : decode cX9_fenced 60 = .ok (.iload 4, 2) := by decide +kernel
theorem dX9_fenced_62 : decode cX9_fenced 62 = .ok (.iastore, 1) := by decide +kernel
theorem dX9_fenced_63 : decode cX9_fenced 63 = .ok (.iload_n 1, 1) := by decide +kernel
theorem dX9_fenced_64 : decode cX9_fenced 64 = .ok (.iload_n 2, 1) := by decide +kernel
theorem dX9_fenced_65 : decode cX9_fenced 65 = .ok (.bipush 10, 2) := by decide +kernel
theorem dX9_fenced_67 : decode cX9_fenced 67 = .ok (.iload_n 3, 1) := by decide +kernel
theorem dX9_fenced_68 : decode cX9_fenced 68 = .ok (.imul, 1) := by decide +kernel
theorem dX9_fenced_69 : decode cX9_fenced 69 = .ok (.iload 6, 2) := by decide +kernel
theorem dX9_fenced_71 : decode cX9_fenced 71 = .ok (.iadd, 1) := by decide +kernel
theorem dX9_fenced_72 : decode cX9_fenced 72 = .ok (.invokestatic 384, 3) := by decide +kernel
theorem dX9_fenced_75 : decode cX9_fenced 75 = .ok (.ifCond .eq 91, 3) := by decide +kernel
theorem dX9_fenced_78 : decode cX9_fenced 78 = .ok (.iload 6, 2) := by decide +kernel
theorem dX9_fenced_80 : decode cX9_fenced 80 = .ok (.ifCond .le 86, 3) := by decide +kernel
theorem dX9_fenced_83 : decode cX9_fenced 83 = .ok (.aload_n 0, 1) := by decide +kernel
theorem dX9_fenced_84 : decode cX9_fenced 84 = .ok (.getfield 16, 3) := by decide +kernel
theorem dX9_fenced_87 : decode cX9_fenced 87 = .ok (.bipush 72, 2) := by decide +kernel
theorem dX9_fenced_89 : decode cX9_fenced 89 = .ok (.bipush 12, 2) := by decide +kernel
theorem dX9_fenced_9 : decode cX9_fenced 9 = .ok (.iconst 0, 1) := by decide +kernel
theorem dX9_fenced_91 : decode cX9_fenced 91 = .ok (.iload_n 3, 1) := by decide +kernel
theorem dX9_fenced_92 : decode cX9_fenced 92 = .ok (.imul, 1) := by decide +kernel
theorem dX9_fenced_93 : decode cX9_fenced 93 = .ok (.iadd, 1) := by decide +kernel
theorem dX9_fenced_94 : decode cX9_fenced 94 = .ok (.iload 4, 2) := by decide +kernel
theorem dX9_fenced_96 : decode cX9_fenced 96 = .ok (.iadd, 1) := by decide +kernel
theorem dX9_fenced_97 : decode cX9_fenced 97 = .ok (.iconst 4, 1) := by decide +kernel
theorem dX9_fenced_98 : decode cX9_fenced 98 = .ok (.iastore, 1) := by decide +kernel
theorem dX9_fenced_99 : decode cX9_fenced 99 = .ok (.aload_n 0, 1) := by decide +kernel
def gIn (kd cl rg u1 u2 k0 : Nat → Int32) (x y : Int32) (k : Nat) (mv : Nat → Nat) (b n i : Nat) : Prop := (∀ p, p < n → ∃ q, q ≤ 8 ∧ kd (b + p) = nI q ∧ gI9 q cl rg u1 u2 (b + p) ∧ (q = 8 → ∃ i', i' < i ∧ k0 ((12 * k) + i') = 8 ∧ gOw x y k mv i' = p)) ∧ gCn9 kd b n ≤ i
theorem gIn_0 {kd cl rg u1 u2 k0 : Nat → Int32} {x y : Int32} {k b : Nat} {mv : Nat → Nat} : gIn kd cl rg u1 u2 k0 x y k mv b 0 0 := ⟨fun p h => absurd h (Nat.not_lt_zero p), Nat.le_refl _⟩
theorem gIn_f {kd cl rg u1 u2 k0 : Nat → Int32} {x y : Int32} {k b n i a : Nat} {mv : Nat → Nat} (h : gIn kd cl rg u1 u2 k0 x y k mv b n i) (ha : a = b + n) : gIn (upd kd a 4) (upd cl a (-1)) (upd rg a (-1)) (upd u1 a (-1)) (upd u2 a (-1)) k0 x y k mv b (n + 1) i := by
  subst ha
  refine ⟨fun p hp => ?_, ?_⟩
  · by_cases e : p = n
    · subst e
      exact ⟨4, by omega, pk_us, ⟨fun _ _ h _ => absurd rfl h, Or.inl pk_us, Or.inl pk_us, Or.inl pk_us⟩, fun h => absurd h (by decide)⟩
    · obtain ⟨q, q1, q2, q3, q4⟩ := h.1 p (by omega)
      exact ⟨q, q1, by rw [pk_un (by omega)]; exact q2, gI9_ext q3 (pk_un (by omega)) (pk_un (by omega)) (pk_un (by omega)) (pk_un (by omega)), q4⟩
  · show gCn9 (upd kd (b + n) 4) b n + (if upd kd (b + n) 4 (b + n) = 1 then 1 else 0) ≤ i
    rw [gCn_ext (kd := kd) (fun j hj => pk_un (by omega)), pk_us, if_neg (by decide)]
    exact h.2
theorem gIn_c {kd cl rg u1 u2 k0 : Nat → Int32} {x y : Int32} {k b n i a s : Nat} {mv mv' : Nat → Nat} (h : gIn kd cl rg u1 u2 k0 x y k mv b n i) (ha : a = b + n) (hs : ∃ q, q ≤ 8 ∧ kd s = nI q ∧ gI9 q cl rg u1 u2 s) (hk : k0 ((12 * k) + i) = kd s) (hm : ∀ j, j ≤ i → mv' j = mv j) (ho : gOw x y k mv i = n) : gIn (upd kd a (kd s)) (upd cl a (cl s)) (upd rg a (rg s)) (upd u1 a (u1 s)) (upd u2 a (u2 s)) k0 x y k mv' b (n + 1) (i + 1) := by
  subst ha
  refine ⟨fun p hp => ?_, ?_⟩
  · by_cases e : p = n
    · subst e
      obtain ⟨q, q1, q2, q3⟩ := hs
      exact ⟨q, q1, by rw [pk_us]; exact q2, gI9_ext q3 pk_us pk_us pk_us pk_us, fun e8 => ⟨i, by omega, by rw [hk, q2, e8]; rfl, by rw [gOw_ext (hm i (Nat.le_refl _))]; exact ho⟩⟩
    · obtain ⟨q, q1, q2, q3, q4⟩ := h.1 p (by omega)
      refine ⟨q, q1, by rw [pk_un (by omega)]; exact q2, gI9_ext q3 (pk_un (by omega)) (pk_un (by omega)) (pk_un (by omega)) (pk_un (by omega)), fun e8 => ?_⟩
      obtain ⟨j, j1, j2, j3⟩ := q4 e8
      exact ⟨j, by omega, j2, by rw [gOw_ext (hm j (by omega))]; exact j3⟩
  · show gCn9 (upd kd (b + n) (kd s)) b n + (if upd kd (b + n) (kd s) (b + n) = 1 then 1 else 0) ≤ i + 1
    rw [gCn_ext (kd := kd) (fun j hj => pk_un (by omega))]
    have := h.2
    split <;> omega
theorem gPk_mk {kd cl rg u1 u2 k0 sk : Nat → Int32} {x y : Int32} {k b n i : Nat} {mv : Nat → Nat} (h : gIn kd cl rg u1 u2 k0 x y k mv b n i) (hb : b = 72 + (12 * k)) (hl : gLt k0 sk x y k mv n i) (hn : n ≤ 12) (hi : i ≤ 6) : gPk kd cl rg u1 u2 sk b n := by
  subst hb
  refine ⟨hn, Nat.le_trans h.2 hi, fun p hp => ?_⟩
  obtain ⟨q, q1, q2, q3, q4⟩ := h.1 p hp
  refine ⟨q, q1, q2, q3, fun e => ?_⟩
  obtain ⟨j, j1, j2, j3⟩ := q4 e
  obtain ⟨u, u1, u2, u3⟩ := hl j j1 j2
  rw [j3] at u2 u3
  exact ⟨u, u1, u2, u3⟩
def gOu (Mn : Nat → Nat) (kd cl rg u1 u2 sk : Nat → Int32) (k : Nat) : Prop := ∀ j, j < k → gPk kd cl rg u1 u2 sk (72 + (12 * j)) (Mn (6 + j))
theorem gOu_s {Mn : Nat → Nat} {kd cl rg u1 u2 sk kd' cl' rg' u1' u2' sk' : Nat → Int32} {k n a : Nat} (h : gOu Mn kd cl rg u1 u2 sk k) (hk : gPk kd' cl' rg' u1' u2' sk' (72 + (12 * k)) n) (ha : a = 6 + k) (e0 : gFm kd' kd (72 + (12 * k)) 12) (e1 : gFm cl' cl (72 + (12 * k)) 12) (e2 : gFm rg' rg (72 + (12 * k)) 12) (e3 : gFm u1' u1 (72 + (12 * k)) 12) (e4 : gFm u2' u2 (72 + (12 * k)) 12) (e5 : gFm sk' sk (72 + (12 * k)) 12) : gOu (updN Mn a n) kd' cl' rg' u1' u2' sk' (k + 1) := by
  subst ha
  intro j hj
  by_cases e : j = k
  · subst e; rw [updN_s]; exact hk
  · rw [updN_n (by omega)]
    have h0 := h j (by omega)
    have hm := h0.1
    exact gPk_ext h0 (fun i hi => e0 _ (by omega)) (fun i hi => e1 _ (by omega)) (fun i hi => e2 _ (by omega)) (fun i hi => e3 _ (by omega)) (fun i hi => e4 _ (by omega)) (fun i hi => e5 _ (by omega))
theorem gOu_end {C Mn : Nat → Nat} {kd cl rg u1 u2 sk : Nat → Int32} (h : gOu Mn kd cl rg u1 u2 sk 3) : gP9 C Mn kd cl rg u1 u2 sk 2 := fun k _ h3 => h k h3
theorem gFm_72 {g f f0 : Nat → Int32} {k : Nat} (h : gFm g f (72 + (12 * k)) 12) (h0 : ∀ j, j < 72 → f j = f0 j) : ∀ j, j < 72 → g j = f0 j := fun j hj => (h j (by omega)).trans (h0 j hj)
theorem gMn_u {Mn : Nat → Nat} {k n a b c : Nat} (h : ∀ j, j < b → Mn j ≤ c) (hn : n ≤ c) : ∀ j, j < b → updN Mn a n j ≤ c := by
  intro j hj
  by_cases e : j = a
  · subst e; rw [updN_s]; exact hn
  · rw [updN_n e]; exact h j hj