theorem dX9_text_0 : decode cX9_text 0 = .ok (.iconst 0, 1) := by decide +kernel
theorem dX9_text_1 : decode cX9_text 1 = .ok (.istore_n 1, 1) := by decide +kernel
theorem dX9_text_100 : decode cX9_text 100 = .ok (.getfield 40, 3) := by decide +kernel
theorem dX9_text_103 : decode cX9_text 103 = .ok (.iconst 4, 1) := by decide +kernel
theorem dX9_text_104 : decode cX9_text 104 = .ok (.iload_n 2, 1) := by decide +kernel
theorem dX9_text_105 : decode cX9_text 105 = .ok (.iadd, 1) := by decide +kernel
theorem dX9_text_106 : decode cX9_text 106 = .ok (.aload_n 0, 1) := by decide +kernel
theorem dX9_text_107 : decode cX9_text 107 = .ok (.getfield 175, 3) := by decide +kernel
theorem dX9_text_110 : decode cX9_text 110 = .ok (.iastore, 1) := by decide +kernel
theorem dX9_text_111 : decode cX9_text 111 = .ok (.goto (-109), 3) := by decide +kernel
theorem dX9_text_114 : decode cX9_text 114 = .ok (.iconst 1, 1) := by decide +kernel
theorem dX9_text_115 : decode cX9_text 115 = .ok (.istore_n 2, 1) := by decide +kernel
theorem dX9_text_116 : decode cX9_text 116 = .ok (.iload_n 2, 1) := by decide +kernel
theorem dX9_text_117 : decode cX9_text 117 = .ok (.ifCond .eq 78, 3) := by decide +kernel
theorem dX9_text_12 : decode cX9_text 12 = .ok (.aload_n 0, 1) := by decide +kernel
theorem dX9_text_120 : decode cX9_text 120 = .ok (.aload_n 0, 1) := by decide +kernel
theorem dX9_text_121 : decode cX9_text 121 = .ok (.ldc2_w 238, 3) := by decide +kernel
theorem dX9_text_124 : decode cX9_text 124 = .ok (.invokevirtual 168, 3) := by decide +kernel
theorem dX9_text_127 : decode cX9_text 127 = .ok (.ifCond .ne 13, 3) := by decide +kernel
theorem dX9_text_13 : decode cX9_text 13 = .ok (.bipush 72, 2) := by decide +kernel
theorem dX9_text_130 : decode cX9_text 130 = .ok (.aload_n 0, 1) := by decide +kernel
theorem dX9_text_131 : decode cX9_text 131 = .ok (.iconst 1, 1) := by decide +kernel
theorem dX9_text_132 : decode cX9_text 132 = .ok (.aload_n 0, 1) := by decide +kernel
theorem dX9_text_133 : decode cX9_text 133 = .ok (.getfield 130, 3) := by decide +kernel
theorem dX9_text_136 : decode cX9_text 136 = .ok (.invokevirtual 157, 3) := by decide +kernel
theorem dX9_text_139 : decode cX9_text 139 = .ok (.ireturn, 1) := by decide +kernel
theorem dX9_text_140 : decode cX9_text 140 = .ok (.aload_n 0, 1) := by decide +kernel
theorem dX9_text_141 : decode cX9_text 141 = .ok (.getfield 7, 3) := by decide +kernel
theorem dX9_text_144 : decode cX9_text 144 = .ok (.iconst 1, 1) := by decide +kernel
theorem dX9_text_145 : decode cX9_text 145 = .ok (.iaload, 1) := by decide +kernel
theorem dX9_text_146 : decode cX9_text 146 = .ok (.iconst 3, 1) := by decide +kernel
theorem dX9_text_147 : decode cX9_text 147 = .ok (.if_icmp .ne 13, 3) := by decide +kernel
theorem dX9_text_15 : decode cX9_text 15 = .ok (.putfield 186, 3) := by decide +kernel
theorem dX9_text_150 : decode cX9_text 150 = .ok (.aload_n 0, 1) := by decide +kernel
theorem dX9_text_151 : decode cX9_text 151 = .ok (.iconst 2, 1) := by decide +kernel
theorem dX9_text_152 : decode cX9_text 152 = .ok (.aload_n 0, 1) := by decide +kernel
theorem dX9_text_153 : decode cX9_text 153 = .ok (.getfield 130, 3) := by decide +kernel
theorem dX9_text_156 : decode cX9_text 156 = .ok (.invokevirtual 157, 3) := by decide +kernel
theorem dX9_text_159 : decode cX9_text 159 = .ok (.ireturn, 1) := by decide +kernel
theorem dX9_text_160 : decode cX9_text 160 = .ok (.aload_n 0, 1) := by decide +kernel
theorem dX9_text_161 : decode cX9_text 161 = .ok (.invokevirtual 240, 3) := by decide +kernel
theorem dX9_text_164 : decode cX9_text 164 = .ok (.ifCond .ne 5, 3) := by decide +kernel
theorem dX9_text_167 : decode cX9_text 167 = .ok (.iconst 0, 1) := by decide +kernel
theorem dX9_text_168 : decode cX9_text 168 = .ok (.ireturn, 1) := by decide +kernel
theorem dX9_text_169 : decode cX9_text 169 = .ok (.aload_n 0, 1) := by decide +kernel
theorem dX9_text_170 : decode cX9_text 170 = .ok (.getfield 7, 3) := by decide +kernel
theorem dX9_text_173 : decode cX9_text 173 = .ok (.iconst 1, 1) := by decide +kernel
theorem dX9_text_174 : decode cX9_text 174 = .ok (.dup2, 1) := by decide +kernel
theorem dX9_text_175 : decode cX9_text 175 = .ok (.iaload, 1) := by decide +kernel
theorem dX9_text_176 : decode cX9_text 176 = .ok (.iconst 1, 1) := by decide +kernel
theorem dX9_text_177 : decode cX9_text 177 = .ok (.iadd, 1) := by decide +kernel
theorem dX9_text_178 : decode cX9_text 178 = .ok (.iastore, 1) := by decide +kernel
theorem dX9_text_179 : decode cX9_text 179 = .ok (.aload_n 0, 1) := by decide +kernel
theorem dX9_text_18 : decode cX9_text 18 = .ok (.aload_n 0, 1) := by decide +kernel
theorem dX9_text_180 : decode cX9_text 180 = .ok (.getfield 137, 3) := by decide +kernel
theorem dX9_text_183 : decode cX9_text 183 = .ok (.ifCond .eq 7, 3) := by decide +kernel
theorem dX9_text_186 : decode cX9_text 186 = .ok (.iconst 1, 1) := by decide +kernel
theorem dX9_text_187 : decode cX9_text 187 = .ok (.goto 4, 3) := by decide +kernel
theorem dX9_text_19 : decode cX9_text 19 = .ok (.invokevirtual 164, 3) := by decide +kernel
theorem dX9_text_190 : decode cX9_text 190 = .ok (.iconst 0, 1) := by decide +kernel
theorem dX9_text_191 : decode cX9_text 191 = .ok (.istore_n 2, 1) := by decide +kernel
theorem dX9_text_192 : decode cX9_text 192 = .ok (.goto (-76), 3) := by decide +kernel
theorem dX9_text_195 : decode cX9_text 195 = .ok (.iconst 1, 1) := by decide +kernel
theorem dX9_text_196 : decode cX9_text 196 = .ok (.ireturn, 1) := by decide +kernel
theorem dX9_text_2 : decode cX9_text 2 = .ok (.aload_n 0, 1) := by decide +kernel
theorem dX9_text_22 : decode cX9_text 22 = .ok (.ifCond .eq 10, 3) := by decide +kernel
theorem dX9_text_25 : decode cX9_text 25 = .ok (.aload_n 0, 1) := by decide +kernel
theorem dX9_text_26 : decode cX9_text 26 = .ok (.invokevirtual 232, 3) := by decide +kernel
theorem dX9_text_29 : decode cX9_text 29 = .ok (.ifCond .ne 5, 3) := by decide +kernel
theorem dX9_text_3 : decode cX9_text 3 = .ok (.ldc2_w 230, 3) := by decide +kernel
theorem dX9_text_32 : decode cX9_text 32 = .ok (.iconst 0, 1) := by decide +kernel
theorem dX9_text_33 : decode cX9_text 33 = .ok (.ireturn, 1) := by decide +kernel
theorem dX9_text_34 : decode cX9_text 34 = .ok (.aload_n 0, 1) := by decide +kernel
theorem dX9_text_35 : decode cX9_text 35 = .ok (.getfield 175, 3) := by decide +kernel
theorem dX9_text_38 : decode cX9_text 38 = .ok (.istore_n 2, 1) := by decide +kernel
theorem dX9_text_39 : decode cX9_text 39 = .ok (.iload_n 2, 1) := by decide +kernel
theorem dX9_text_40 : decode cX9_text 40 = .ok (.iconst 4, 1) := by decide +kernel
theorem dX9_text_41 : decode cX9_text 41 = .ok (.if_icmp .ge 20, 3) := by decide +kernel
theorem dX9_text_44 : decode cX9_text 44 = .ok (.iload_n 1, 1) := by decide +kernel
theorem dX9_text_45 : decode cX9_text 45 = .ok (.iload_n 2, 1) := by decide +kernel
theorem dX9_text_46 : decode cX9_text 46 = .ok (.ishr, 1) := by decide +kernel
theorem dX9_text_47 : decode cX9_text 47 = .ok (.iconst 1, 1) := by decide +kernel
theorem dX9_text_48 : decode cX9_text 48 = .ok (.iand, 1) := by decide +kernel
theorem dX9_text_49 : decode cX9_text 49 = .ok (.iconst 1, 1) := by decide +kernel
theorem dX9_text_50 : decode cX9_text 50 = .ok (.if_icmp .ne 11, 3) := by decide +kernel
theorem dX9_text_53 : decode cX9_text 53 = .ok (.aload_n 0, 1) := by decide +kernel
theorem dX9_text_54 : decode cX9_text 54 = .ok (.aload_n 0, 1) := by decide +kernel
theorem dX9_text_55 : decode cX9_text 55 = .ok (.getfield 172, 3) := by decide +kernel
theorem dX9_text_58 : decode cX9_text 58 = .ok (.invokevirtual 183, 3) := by decide +kernel
theorem dX9_text_6 : decode cX9_text 6 = .ok (.invokevirtual 168, 3) := by decide +kernel
theorem dX9_text_61 : decode cX9_text 61 = .ok (.aload_n 0, 1) := by decide +kernel
theorem dX9_text_62 : decode cX9_text 62 = .ok (.bipush 61, 2) := by decide +kernel
theorem dX9_text_64 : decode cX9_text 64 = .ok (.invokevirtual 235, 3) := by decide +kernel
theorem dX9_text_67 : decode cX9_text 67 = .ok (.ifCond .eq 19, 3) := by decide +kernel
theorem dX9_text_70 : decode cX9_text 70 = .ok (.aload_n 0, 1) := by decide +kernel
theorem dX9_text_71 : decode cX9_text 71 = .ok (.invokevirtual 196, 3) := by decide +kernel
theorem dX9_text_74 : decode cX9_text 74 = .ok (.ifCond .eq 12, 3) := by decide +kernel
theorem dX9_text_77 : decode cX9_text 77 = .ok (.aload_n 0, 1) := by decide +kernel
theorem dX9_text_78 : decode cX9_text 78 = .ok (.bipush 59, 2) := by decide +kernel
theorem dX9_text_80 : decode cX9_text 80 = .ok (.invokevirtual 235, 3) := by decide +kernel
theorem dX9_text_83 : decode cX9_text 83 = .ok (.ifCond .ne 5, 3) := by decide +kernel
theorem dX9_text_86 : decode cX9_text 86 = .ok (.iconst 0, 1) := by decide +kernel
theorem dX9_text_87 : decode cX9_text 87 = .ok (.ireturn, 1) := by decide +kernel
theorem dX9_text_88 : decode cX9_text 88 = .ok (.iload_n 2, 1) := by decide +kernel
theorem dX9_text_89 : decode cX9_text 89 = .ok (.iconst 4, 1) := by decide +kernel
theorem dX9_text_9 : decode cX9_text 9 = .ok (.ifCond .eq 105, 3) := by decide +kernel
theorem dX9_text_90 : decode cX9_text 90 = .ok (.if_icmp .ge 21, 3) := by decide +kernel
theorem dX9_text_93 : decode cX9_text 93 = .ok (.iload_n 1, 1) := by decide +kernel
theorem dX9_text_94 : decode cX9_text 94 = .ok (.iconst 1, 1) := by decide +kernel
theorem dX9_text_95 : decode cX9_text 95 = .ok (.iload_n 2, 1) := by decide +kernel
theorem dX9_text_96 : decode cX9_text 96 = .ok (.ishl, 1) := by decide +kernel
theorem dX9_text_97 : decode cX9_text 97 = .ok (.ior, 1) := by decide +kernel
theorem dX9_text_98 : decode cX9_text 98 = .ok (.istore_n 1, 1) := by decide +kernel
theorem dX9_text_99 : decode cX9_text 99 = .ok (.aload_n 0, 1) := by decide +kernel
def gTx (C Mn : Nat → Nat) (kd cl rg u1 u2 sk : Nat → Int32) : Prop := ∀ j, j < C 1 → gPk kd cl rg u1 u2 sk (36 + (12 * j)) (Mn (3 + j)) ∧ Mn (3 + j) ≤ 6
theorem gTx_0 {C Mn : Nat → Nat} {kd cl rg u1 u2 sk : Nat → Int32} (h : C 1 = 0) : gTx C Mn kd cl rg u1 u2 sk := fun j hj => absurd hj (by omega)
theorem gTx_s {C Mn Mn' : Nat → Nat} {kd cl rg u1 u2 sk kd' cl' rg' u1' u2' sk' : Nat → Int32} (h : gTx C Mn kd cl rg u1 u2 sk) (hn : gPk kd' cl' rg' u1' u2' sk' (36 + (12 * (C 1))) (Mn' (3 + C 1)) ∧ Mn' (3 + C 1) ≤ 6) (hM : ∀ j, j ≠ 3 + C 1 → Mn' j = Mn j) (e0 : gFm kd' kd (36 + (12 * (C 1))) 12) (e1 : gFm cl' cl (36 + (12 * (C 1))) 12) (e2 : gFm rg' rg (36 + (12 * (C 1))) 12) (e3 : gFm u1' u1 (36 + (12 * (C 1))) 12) (e4 : gFm u2' u2 (36 + (12 * (C 1))) 12) (e5 : gFm sk' sk (36 + (12 * (C 1))) 12) : gTx (updN C 1 (C 1 + 1)) Mn' kd' cl' rg' u1' u2' sk' := by
  intro j hj
  rw [updN_s] at hj
  by_cases e : j = C 1
  · subst e; exact hn
  · obtain ⟨h1, h2⟩ := h j (by omega)
    rw [hM _ (by omega)]
    exact ⟨gPk_ext h1 (fun i hi => e0 _ (by omega)) (fun i hi => e1 _ (by omega)) (fun i hi => e2 _ (by omega)) (fun i hi => e3 _ (by omega)) (fun i hi => e4 _ (by omega)) (fun i hi => e5 _ (by omega)), h2⟩
theorem gP9_e36 {C Mn C' Mn' : Nat → Nat} {kd cl rg u1 u2 sk kd' cl' rg' u1' u2' sk' : Nat → Int32} (h : gP9 C Mn kd cl rg u1 u2 sk 0) (hC : C' 0 = C 0) (hM : ∀ j, j < 3 → Mn' j = Mn j) (hM6 : ∀ j, j < 3 → Mn j ≤ 6) (e0 : ∀ j, j < 36 → kd' j = kd j) (e1 : ∀ j, j < 36 → cl' j = cl j) (e2 : ∀ j, j < 36 → rg' j = rg j) (e3 : ∀ j, j < 36 → u1' j = u1 j) (e4 : ∀ j, j < 36 → u2' j = u2 j) (e5 : ∀ j, j < 36 → sk' j = sk j) : gP9 C' Mn' kd' cl' rg' u1' u2' sk' 0 := by
  intro k hk h3
  rw [hC] at hk
  have hm := hM6 k h3
  have hb : Mn ((3 * 0) + k) = Mn k := by congr 1; omega
  rw [show Mn' ((3 * 0) + k) = Mn ((3 * 0) + k) from hM _ (by omega)]
  exact gPk_ext (h k hk h3) (fun j hj => e0 _ (by omega)) (fun j hj => e1 _ (by omega)) (fun j hj => e2 _ (by omega)) (fun j hj => e3 _ (by omega)) (fun j hj => e4 _ (by omega)) (fun j hj => e5 _ (by omega))
theorem gB9_bad {C Mn C' Mn' : Nat → Nat} {kd cl rg u1 u2 sk kd' cl' rg' u1' u2' sk' : Nat → Int32} (h : gB9 C Mn kd cl rg u1 u2 sk) (hC1 : C' 1 ≤ 3) (hC : ∀ j, j ≠ 1 → C' j = updN C 1 0 j) (hM : ∀ j, j < 3 → Mn' j = Mn j) (hM9 : ∀ j, j < 9 → Mn' j ≤ 12) (e0 : ∀ j, j < 36 → kd' j = kd j) (e1 : ∀ j, j < 36 → cl' j = cl j) (e2 : ∀ j, j < 36 → rg' j = rg j) (e3 : ∀ j, j < 36 → u1' j = u1 j) (e4 : ∀ j, j < 36 → u2' j = u2 j) (e5 : ∀ j, j < 36 → sk' j = sk j) : gB9 C' Mn' kd' cl' rg' u1' u2' sk' ∧ gSm kd kd' C C' Mn Mn' := by
  obtain ⟨h1, h2, h3, h4⟩ := h
  have hC0 : C' 0 = C 0 := (hC 0 (by decide)).trans (updN_n (by decide))
  refine ⟨⟨fun j hj => ?_, hM9, fun j hj => by rw [hM j hj]; exact h3 j hj, gP9_e36 h4 hC0 hM h3 e0 e1 e2 e3 e4 e5⟩, hC0, e0, hM⟩
  by_cases e : j = 1
  · subst e; exact hC1
  · rw [hC j e, updN_n e]; exact h1 j hj
theorem gB9_rd {C Mn Mn' : Nat → Nat} {kd cl rg u1 u2 sk kd' cl' rg' u1' u2' sk' : Nat → Int32} (hC : ∀ j, j < 3 → C j ≤ 3) (hM9 : ∀ j, j < 9 → Mn j ≤ 12) (hT : gTx C Mn kd cl rg u1 u2 sk) (hm : gMp Mn' Mn (C 1) 3) (e0 : gCp kd' kd 36) (e1 : gCp cl' cl 36) (e2 : gCp rg' rg 36) (e3 : gCp u1' u1 36) (e4 : gCp u2' u2 36) (e5 : gCp sk' sk 36) : gB9 (updN C 0 (C 1)) Mn' kd' cl' rg' u1' u2' sk' := by
  have h6 : ∀ j, j < 3 → Mn' j ≤ 6 := by
    intro j hj
    rw [hm.1 j hj]
    split
    · exact (hT j (by assumption)).2
    · omega
  refine ⟨fun j hj => ?_, fun j hj => ?_, h6, fun k hk h3 => ?_⟩
  · by_cases e : j = 0
    · subst e; rw [updN_s]; exact hC 1 (by decide)
    · rw [updN_n e]; exact hC j hj
  · by_cases e : j < 3
    · exact Nat.le_trans (h6 j e) (by decide)
    · rw [hm.2 j (by omega)]; exact hM9 j hj
  · rw [updN_s] at hk
    obtain ⟨⟨a1, a2, a3⟩, b⟩ := hT k hk
    rw [show (36 * 0) + (12 * k) = 12 * k by omega, show (3 * 0) + k = k by omega]
    have ek : Mn' k = Mn (3 + k) := by rw [hm.1 k h3, if_pos hk]
    rw [ek]
    have ex : ∀ {x x0 : Nat → Int32} (h : gCp x x0 36) (i : Nat), i < Mn (3 + k) → x (12 * k + i) = x0 (36 + 12 * k + i) := by
      intro x x0 h i hi
      rw [h.1 _ (by omega)]
      congr 1; omega
    refine ⟨a1, Nat.le_trans gCn_le b, fun i hi => ?_⟩
    obtain ⟨q, q1, q2, q3, q4⟩ := a3 i hi
    refine ⟨q, q1, by rw [ex e0 i hi]; exact q2, gI9_ext q3 (ex e1 i hi) (ex e2 i hi) (ex e3 i hi) (ex e4 i hi), fun e8 => ?_⟩
    obtain ⟨y, y1, y2, y3⟩ := q4 e8
    exact ⟨y, y1, by rw [ex e5 i hi]; exact y2, y3⟩