theorem dX4_becomeFenced_0 : decode cX4_becomeFenced 0 = .ok (.aload_n 0, 1) := by decide +kernel
theorem dX4_becomeFenced_1 : decode cX4_becomeFenced 1 = .ok (.invokevirtual 40, 3) := by decide +kernel
theorem dX4_becomeFenced_101 : decode cX4_becomeFenced 101 = .ok (.aload_n 1, 1) := by decide +kernel
theorem dX4_becomeFenced_102 : decode cX4_becomeFenced 102 = .ok (.iload 4, 2) := by decide +kernel
theorem dX4_becomeFenced_104 : decode cX4_becomeFenced 104 = .ok (.iload 5, 2) := by decide +kernel
theorem dX4_becomeFenced_106 : decode cX4_becomeFenced 106 = .ok (.bipush 7, 2) := by decide +kernel
theorem dX4_becomeFenced_108 : decode cX4_becomeFenced 108 = .ok (.invokevirtual 56, 3) := by decide +kernel
theorem dX4_becomeFenced_111 : decode cX4_becomeFenced 111 = .ok (.istore 7, 2) := by decide +kernel
theorem dX4_becomeFenced_113 : decode cX4_becomeFenced 113 = .ok (.iload 6, 2) := by decide +kernel
theorem dX4_becomeFenced_115 : decode cX4_becomeFenced 115 = .ok (.iload 7, 2) := by decide +kernel
theorem dX4_becomeFenced_117 : decode cX4_becomeFenced 117 = .ok (.iload_n 2, 1) := by decide +kernel
theorem dX4_becomeFenced_118 : decode cX4_becomeFenced 118 = .ok (.invokestatic 60, 3) := by decide +kernel
theorem dX4_becomeFenced_12 : decode cX4_becomeFenced 12 = .ok (.aload_n 1, 1) := by decide +kernel
theorem dX4_becomeFenced_121 : decode cX4_becomeFenced 121 = .ok (.iload 6, 2) := by decide +kernel
theorem dX4_becomeFenced_123 : decode cX4_becomeFenced 123 = .ok (.iload 7, 2) := by decide +kernel
theorem dX4_becomeFenced_125 : decode cX4_becomeFenced 125 = .ok (.iload_n 3, 1) := by decide +kernel
theorem dX4_becomeFenced_126 : decode cX4_becomeFenced 126 = .ok (.invokestatic 60, 3) := by decide +kernel
theorem dX4_becomeFenced_129 : decode cX4_becomeFenced 129 = .ok (.iadd, 1) := by decide +kernel
theorem dX4_becomeFenced_13 : decode cX4_becomeFenced 13 = .ok (.getfield 15, 3) := by decide +kernel
theorem dX4_becomeFenced_130 : decode cX4_becomeFenced 130 = .ok (.istore 8, 2) := by decide +kernel
theorem dX4_becomeFenced_132 : decode cX4_becomeFenced 132 = .ok (.aload_n 0, 1) := by decide +kernel
theorem dX4_becomeFenced_133 : decode cX4_becomeFenced 133 = .ok (.aload_n 1, 1) := by decide +kernel
theorem dX4_becomeFenced_134 : decode cX4_becomeFenced 134 = .ok (.iload 4, 2) := by decide +kernel
theorem dX4_becomeFenced_136 : decode cX4_becomeFenced 136 = .ok (.iload 5, 2) := by decide +kernel
theorem dX4_becomeFenced_138 : decode cX4_becomeFenced 138 = .ok (.iload 7, 2) := by decide +kernel
theorem dX4_becomeFenced_140 : decode cX4_becomeFenced 140 = .ok (.iload 8, 2) := by decide +kernel
theorem dX4_becomeFenced_142 : decode cX4_becomeFenced 142 = .ok (.iadd, 1) := by decide +kernel
theorem dX4_becomeFenced_143 : decode cX4_becomeFenced 143 = .ok (.invokevirtual 63, 3) := by decide +kernel
theorem dX4_becomeFenced_146 : decode cX4_becomeFenced 146 = .ok (.iinc 5 1, 3) := by decide +kernel
theorem dX4_becomeFenced_149 : decode cX4_becomeFenced 149 = .ok (.goto (-108), 3) := by decide +kernel
theorem dX4_becomeFenced_152 : decode cX4_becomeFenced 152 = .ok (.iinc 4 1, 3) := by decide +kernel
theorem dX4_becomeFenced_155 : decode cX4_becomeFenced 155 = .ok (.goto (-126), 3) := by decide +kernel
theorem dX4_becomeFenced_158 : decode cX4_becomeFenced 158 = .ok (.return_, 1) := by decide +kernel
theorem dX4_becomeFenced_16 : decode cX4_becomeFenced 16 = .ok (.iconst 0, 1) := by decide +kernel
theorem dX4_becomeFenced_17 : decode cX4_becomeFenced 17 = .ok (.aload_n 0, 1) := by decide +kernel
theorem dX4_becomeFenced_18 : decode cX4_becomeFenced 18 = .ok (.getfield 15, 3) := by decide +kernel
theorem dX4_becomeFenced_21 : decode cX4_becomeFenced 21 = .ok (.iconst 0, 1) := by decide +kernel
theorem dX4_becomeFenced_22 : decode cX4_becomeFenced 22 = .ok (.iconst 4, 1) := by decide +kernel
theorem dX4_becomeFenced_23 : decode cX4_becomeFenced 23 = .ok (.invokestatic 43, 3) := by decide +kernel
theorem dX4_becomeFenced_26 : decode cX4_becomeFenced 26 = .ok (.iconst 0, 1) := by decide +kernel
theorem dX4_becomeFenced_27 : decode cX4_becomeFenced 27 = .ok (.istore 4, 2) := by decide +kernel
theorem dX4_becomeFenced_29 : decode cX4_becomeFenced 29 = .ok (.iload 4, 2) := by decide +kernel
theorem dX4_becomeFenced_31 : decode cX4_becomeFenced 31 = .ok (.aload_n 0, 1) := by decide +kernel
theorem dX4_becomeFenced_32 : decode cX4_becomeFenced 32 = .ok (.getfield 21, 3) := by decide +kernel
theorem dX4_becomeFenced_35 : decode cX4_becomeFenced 35 = .ok (.if_icmp .ge 123, 3) := by decide +kernel
theorem dX4_becomeFenced_38 : decode cX4_becomeFenced 38 = .ok (.iconst 0, 1) := by decide +kernel
theorem dX4_becomeFenced_39 : decode cX4_becomeFenced 39 = .ok (.istore 5, 2) := by decide +kernel
theorem dX4_becomeFenced_4 : decode cX4_becomeFenced 4 = .ok (.aload_n 0, 1) := by decide +kernel
theorem dX4_becomeFenced_41 : decode cX4_becomeFenced 41 = .ok (.iload 5, 2) := by decide +kernel
theorem dX4_becomeFenced_43 : decode cX4_becomeFenced 43 = .ok (.aload_n 1, 1) := by decide +kernel
theorem dX4_becomeFenced_44 : decode cX4_becomeFenced 44 = .ok (.getfield 9, 3) := by decide +kernel
theorem dX4_becomeFenced_47 : decode cX4_becomeFenced 47 = .ok (.iload 4, 2) := by decide +kernel
theorem dX4_becomeFenced_49 : decode cX4_becomeFenced 49 = .ok (.iaload, 1) := by decide +kernel
theorem dX4_becomeFenced_5 : decode cX4_becomeFenced 5 = .ok (.aload_n 1, 1) := by decide +kernel
theorem dX4_becomeFenced_50 : decode cX4_becomeFenced 50 = .ok (.if_icmp .ge 102, 3) := by decide +kernel
theorem dX4_becomeFenced_53 : decode cX4_becomeFenced 53 = .ok (.iload 4, 2) := by decide +kernel
theorem dX4_becomeFenced_55 : decode cX4_becomeFenced 55 = .ok (.bipush 10, 2) := by decide +kernel
theorem dX4_becomeFenced_57 : decode cX4_becomeFenced 57 = .ok (.imul, 1) := by decide +kernel
theorem dX4_becomeFenced_58 : decode cX4_becomeFenced 58 = .ok (.iload 5, 2) := by decide +kernel
theorem dX4_becomeFenced_6 : decode cX4_becomeFenced 6 = .ok (.getfield 21, 3) := by decide +kernel
theorem dX4_becomeFenced_60 : decode cX4_becomeFenced 60 = .ok (.iadd, 1) := by decide +kernel
theorem dX4_becomeFenced_61 : decode cX4_becomeFenced 61 = .ok (.istore 6, 2) := by decide +kernel
theorem dX4_becomeFenced_63 : decode cX4_becomeFenced 63 = .ok (.iload 6, 2) := by decide +kernel
theorem dX4_becomeFenced_65 : decode cX4_becomeFenced 65 = .ok (.iload_n 2, 1) := by decide +kernel
theorem dX4_becomeFenced_66 : decode cX4_becomeFenced 66 = .ok (.if_icmp .eq 9, 3) := by decide +kernel
theorem dX4_becomeFenced_69 : decode cX4_becomeFenced 69 = .ok (.iload 6, 2) := by decide +kernel
theorem dX4_becomeFenced_71 : decode cX4_becomeFenced 71 = .ok (.iload_n 3, 1) := by decide +kernel
theorem dX4_becomeFenced_72 : decode cX4_becomeFenced 72 = .ok (.if_icmp .ne 20, 3) := by decide +kernel
theorem dX4_becomeFenced_75 : decode cX4_becomeFenced 75 = .ok (.aload_n 0, 1) := by decide +kernel
theorem dX4_becomeFenced_76 : decode cX4_becomeFenced 76 = .ok (.iload 4, 2) := by decide +kernel
theorem dX4_becomeFenced_78 : decode cX4_becomeFenced 78 = .ok (.invokevirtual 49, 3) := by decide +kernel
theorem dX4_becomeFenced_81 : decode cX4_becomeFenced 81 = .ok (.ifCond .eq 11, 3) := by decide +kernel
theorem dX4_becomeFenced_84 : decode cX4_becomeFenced 84 = .ok (.aload_n 0, 1) := by decide +kernel
theorem dX4_becomeFenced_85 : decode cX4_becomeFenced 85 = .ok (.iload 4, 2) := by decide +kernel
theorem dX4_becomeFenced_87 : decode cX4_becomeFenced 87 = .ok (.iconst 4, 1) := by decide +kernel
theorem dX4_becomeFenced_88 : decode cX4_becomeFenced 88 = .ok (.invokevirtual 53, 3) := by decide +kernel
theorem dX4_becomeFenced_9 : decode cX4_becomeFenced 9 = .ok (.putfield 21, 3) := by decide +kernel
theorem dX4_becomeFenced_91 : decode cX4_becomeFenced 91 = .ok (.pop, 1) := by decide +kernel
theorem dX4_becomeFenced_92 : decode cX4_becomeFenced 92 = .ok (.aload_n 0, 1) := by decide +kernel
theorem dX4_becomeFenced_93 : decode cX4_becomeFenced 93 = .ok (.iload 4, 2) := by decide +kernel
theorem dX4_becomeFenced_95 : decode cX4_becomeFenced 95 = .ok (.invokevirtual 49, 3) := by decide +kernel
theorem dX4_becomeFenced_98 : decode cX4_becomeFenced 98 = .ok (.ifCond .eq 48, 3) := by decide +kernel
theorem gIns_blank {pf : Nat → Int32} {n b : Nat} : gIns (gBlank pf n 4) n b := by
  refine ⟨4, by omega, ?_, fun _ h => absurd rfl h, fun _ _ h => absurd rfl h, Or.inl ?_, Or.inl ?_, fun h => absurd h (by decide)⟩
  · unfold gBlank; rw [pk_un (by omega), pk_un (by omega), pk_un (by omega), pk_un (by omega), pk_un (by omega), pk_un (by omega), pk_un (by omega), pk_us]; rfl
  · unfold gBlank; rw [pk_un (by omega), pk_un (by omega), pk_un (by omega), pk_un (by omega), pk_us]
  · unfold gBlank; rw [pk_un (by omega), pk_un (by omega), pk_us]
theorem gBlank_out {pf : Nat → Int32} {n j : Nat} {x : Int32} (h : j < n ∨ n + 8 ≤ j) : gBlank pf n x j = pf j := by
  unfold gBlank
  rw [pk_un (by omega), pk_un (by omega), pk_un (by omega), pk_un (by omega), pk_un (by omega), pk_un (by omega), pk_un (by omega), pk_un (by omega)]
theorem gIns_ext {pf pg : Nat → Int32} {n b : Nat} (h : gIns pf n b) (e : ∀ j, n ≤ j → j < n + 8 → pg j = pf j) : gIns pg n b := by
  obtain ⟨q, h1, h2, h3, h4, h5, h6, h7⟩ := h
  refine ⟨q, h1, ?_, ?_, ?_, ?_, ?_, ?_⟩
  · rw [e _ (by omega) (by omega)]; exact h2
  · rw [e _ (by omega) (by omega)]; exact h3
  · rw [e _ (by omega) (by omega)]; exact h4
  · rw [e _ (by omega) (by omega)]; exact h5
  · rw [e _ (by omega) (by omega)]; exact h6
  · rw [e _ (by omega) (by omega)]; exact h7
theorem gIns_up {pf : Nat → Int32} {n b b' : Nat} (h : gIns pf n b) (hb : b ≤ b') : gIns pf n b' := by
  obtain ⟨q, h1, h2, h3, h4, h5, h6, h7⟩ := h
  exact ⟨q, h1, h2, h3, h4, h5, h6, fun e => by obtain ⟨y, a, c⟩ := h7 e; exact ⟨y, by omega, c⟩⟩
theorem gIns_copy {pg pf : Nat → Int32} {n0 n w : Nat} (h : gIns pg n0 5) (hw : w ≤ 2) : gIns (upd (va_cpy pg pf n0 n 8) (n + 7) (pg (n0 + 7) + nI w)) n 7 := by
  obtain ⟨q, h1, h2, h3, h4, h5, h6, h7⟩ := h
  have e : ∀ j, j < 7 → upd (va_cpy pg pf n0 n 8) (n + 7) (pg (n0 + 7) + nI w) (n + j) = pg (n0 + j) := by
    intro j hj
    rw [pk_un (by omega), pk_cpy_in (by omega) (by omega)]
    congr 1; omega
  refine ⟨q, h1, ?_, ?_, ?_, ?_, ?_, ?_⟩
  · rw [e 0 (by omega)]; exact h2
  · rw [e 2 (by omega)]; exact h3
  · rw [e 1 (by omega)]; exact h4
  · rw [e 3 (by omega)]; exact h5
  · rw [e 5 (by omega)]; exact h6
  · intro hq
    obtain ⟨y, a, c⟩ := h7 hq
    refine ⟨y + w, by omega, ?_⟩
    rw [pk_us, c]
    exact nI_add y w
def gL8 (L : Nat → Nat) : Prop := ∀ k, k < 3 → L k ≤ 8
theorem gL8_add {L : Nat → Nat} {k : Nat} (h : gL8 L) (hk : L k < 8) : gL8 (updN L k (L k + 1)) := by
  intro j hj
  by_cases e : j = k
  · subst e; rw [updN_s]; omega
  · rw [updN_n e]; exact h j hj
theorem gG_add {L : Nat → Nat} {pf pf' : Nat → Int32} {k n b : Nat} (h : gG L pf b) (h8 : gL8 L) (hk : k < 3) (hl : L k < 8) (hn : ((k * 8) + L k) * 8 = n) (h1 : ∀ j, j < n ∨ n + 8 ≤ j → pf' j = pf j) (h2 : gIns pf' n b) : gG (updN L k (L k + 1)) pf' b := by
  intro k' hk' i hi
  have hh := h8 k' hk'
  by_cases e : k' = k
  · subst e
    rw [updN_s] at hi
    by_cases e2 : i = L k'
    · subst e2; rw [hn]; exact h2
    · exact gIns_ext (h k' hk' i (by omega)) (fun j a c => h1 j (by omega))
  · rw [updN_n e] at hi
    exact gIns_ext (h k' hk' i hi) (fun j a c => h1 j (by omega))
theorem gG_0 {pf : Nat → Int32} {b : Nat} : gG (fun _ => 0) pf b := fun k _ i hi => absurd hi (Nat.not_lt_zero i)
theorem gL8_0 : gL8 (fun _ => 0) := fun _ _ => Nat.zero_le 8
theorem gW_c_clear : wsP_c_clear.all goodWord = true := by decide +kernel
theorem gW_c_hasRoom : wsP_c_hasRoom.all goodWord = true := by decide +kernel
theorem gW_c_part : wsP_c_part.all goodWord = true := by decide +kernel
theorem gW_c_copyIns : wsP_c_copyIns.all goodWord = true := by decide +kernel
theorem gW_c_addBlank : wsP_c_addBlank.all goodWord = true := by decide +kernel