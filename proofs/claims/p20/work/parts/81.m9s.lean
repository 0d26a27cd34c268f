theorem dX9_comes_0 : decode cX9_comes 0 = .ok (.sipush 4096, 3) := by decide +kernel
theorem dX9_comes_10 : decode cX9_comes 10 = .ok (.invokestatic 293, 3) := by decide +kernel
theorem dX9_comes_100 : decode cX9_comes 100 = .ok (.bipush 58, 2) := by decide +kernel
theorem dX9_comes_102 : decode cX9_comes 102 = .ok (.imul, 1) := by decide +kernel
theorem dX9_comes_103 : decode cX9_comes 103 = .ok (.iload 6, 2) := by decide +kernel
theorem dX9_comes_105 : decode cX9_comes 105 = .ok (.iadd, 1) := by decide +kernel
theorem dX9_comes_106 : decode cX9_comes 106 = .ok (.aload_n 0, 1) := by decide +kernel
theorem dX9_comes_107 : decode cX9_comes 107 = .ok (.getfield 75, 3) := by decide +kernel
theorem dX9_comes_110 : decode cX9_comes 110 = .ok (.iload 6, 2) := by decide +kernel
theorem dX9_comes_112 : decode cX9_comes 112 = .ok (.iaload, 1) := by decide +kernel
theorem dX9_comes_113 : decode cX9_comes 113 = .ok (.iastore, 1) := by decide +kernel
theorem dX9_comes_114 : decode cX9_comes 114 = .ok (.iinc 6 1, 3) := by decide +kernel
theorem dX9_comes_117 : decode cX9_comes 117 = .ok (.goto (-36), 3) := by decide +kernel
theorem dX9_comes_120 : decode cX9_comes 120 = .ok (.aload_n 0, 1) := by decide +kernel
theorem dX9_comes_121 : decode cX9_comes 121 = .ok (.getfield 47, 3) := by decide +kernel
theorem dX9_comes_124 : decode cX9_comes 124 = .ok (.sipush 3000, 3) := by decide +kernel
theorem dX9_comes_127 : decode cX9_comes 127 = .ok (.iload_n 1, 1) := by decide +kernel
theorem dX9_comes_128 : decode cX9_comes 128 = .ok (.imul, 1) := by decide +kernel
theorem dX9_comes_129 : decode cX9_comes 129 = .ok (.iload 5, 2) := by decide +kernel
theorem dX9_comes_13 : decode cX9_comes 13 = .ok (.iadd, 1) := by decide +kernel
theorem dX9_comes_131 : decode cX9_comes 131 = .ok (.iadd, 1) := by decide +kernel
theorem dX9_comes_132 : decode cX9_comes 132 = .ok (.iload_n 2, 1) := by decide +kernel
theorem dX9_comes_133 : decode cX9_comes 133 = .ok (.iastore, 1) := by decide +kernel
theorem dX9_comes_134 : decode cX9_comes 134 = .ok (.aload_n 0, 1) := by decide +kernel
theorem dX9_comes_135 : decode cX9_comes 135 = .ok (.getfield 50, 3) := by decide +kernel
theorem dX9_comes_138 : decode cX9_comes 138 = .ok (.sipush 3000, 3) := by decide +kernel
theorem dX9_comes_14 : decode cX9_comes 14 = .ok (.istore 4, 2) := by decide +kernel
theorem dX9_comes_141 : decode cX9_comes 141 = .ok (.iload_n 1, 1) := by decide +kernel
theorem dX9_comes_142 : decode cX9_comes 142 = .ok (.imul, 1) := by decide +kernel
theorem dX9_comes_143 : decode cX9_comes 143 = .ok (.iload 5, 2) := by decide +kernel
theorem dX9_comes_145 : decode cX9_comes 145 = .ok (.iadd, 1) := by decide +kernel
theorem dX9_comes_146 : decode cX9_comes 146 = .ok (.iload_n 3, 1) := by decide +kernel
theorem dX9_comes_147 : decode cX9_comes 147 = .ok (.iastore, 1) := by decide +kernel
theorem dX9_comes_148 : decode cX9_comes 148 = .ok (.aload_n 0, 1) := by decide +kernel
theorem dX9_comes_149 : decode cX9_comes 149 = .ok (.getfield 53, 3) := by decide +kernel
theorem dX9_comes_152 : decode cX9_comes 152 = .ok (.sipush 3000, 3) := by decide +kernel
theorem dX9_comes_155 : decode cX9_comes 155 = .ok (.iload_n 1, 1) := by decide +kernel
theorem dX9_comes_156 : decode cX9_comes 156 = .ok (.imul, 1) := by decide +kernel
theorem dX9_comes_157 : decode cX9_comes 157 = .ok (.iload 5, 2) := by decide +kernel
theorem dX9_comes_159 : decode cX9_comes 159 = .ok (.iadd, 1) := by decide +kernel
theorem dX9_comes_16 : decode cX9_comes 16 = .ok (.aload_n 0, 1) := by decide +kernel
theorem dX9_comes_160 : decode cX9_comes 160 = .ok (.aload_n 0, 1) := by decide +kernel
theorem dX9_comes_161 : decode cX9_comes 161 = .ok (.getfield 56, 3) := by decide +kernel
theorem dX9_comes_164 : decode cX9_comes 164 = .ok (.iload 4, 2) := by decide +kernel
theorem dX9_comes_166 : decode cX9_comes 166 = .ok (.iaload, 1) := by decide +kernel
theorem dX9_comes_167 : decode cX9_comes 167 = .ok (.iastore, 1) := by decide +kernel
theorem dX9_comes_168 : decode cX9_comes 168 = .ok (.aload_n 0, 1) := by decide +kernel
theorem dX9_comes_169 : decode cX9_comes 169 = .ok (.getfield 56, 3) := by decide +kernel
theorem dX9_comes_17 : decode cX9_comes 17 = .ok (.getfield 56, 3) := by decide +kernel
theorem dX9_comes_172 : decode cX9_comes 172 = .ok (.iload 4, 2) := by decide +kernel
theorem dX9_comes_174 : decode cX9_comes 174 = .ok (.iload 5, 2) := by decide +kernel
theorem dX9_comes_176 : decode cX9_comes 176 = .ok (.iastore, 1) := by decide +kernel
theorem dX9_comes_177 : decode cX9_comes 177 = .ok (.aload_n 0, 1) := by decide +kernel
theorem dX9_comes_178 : decode cX9_comes 178 = .ok (.getfield 59, 3) := by decide +kernel
theorem dX9_comes_181 : decode cX9_comes 181 = .ok (.iload_n 1, 1) := by decide +kernel
theorem dX9_comes_182 : decode cX9_comes 182 = .ok (.dup2, 1) := by decide +kernel
theorem dX9_comes_183 : decode cX9_comes 183 = .ok (.iaload, 1) := by decide +kernel
theorem dX9_comes_184 : decode cX9_comes 184 = .ok (.iconst 1, 1) := by decide +kernel
theorem dX9_comes_185 : decode cX9_comes 185 = .ok (.iadd, 1) := by decide +kernel
theorem dX9_comes_186 : decode cX9_comes 186 = .ok (.iastore, 1) := by decide +kernel
theorem dX9_comes_187 : decode cX9_comes 187 = .ok (.iconst 1, 1) := by decide +kernel
theorem dX9_comes_188 : decode cX9_comes 188 = .ok (.ireturn, 1) := by decide +kernel
theorem dX9_comes_20 : decode cX9_comes 20 = .ok (.iload 4, 2) := by decide +kernel
theorem dX9_comes_22 : decode cX9_comes 22 = .ok (.iaload, 1) := by decide +kernel
theorem dX9_comes_23 : decode cX9_comes 23 = .ok (.istore 5, 2) := by decide +kernel
theorem dX9_comes_25 : decode cX9_comes 25 = .ok (.iload 5, 2) := by decide +kernel
theorem dX9_comes_27 : decode cX9_comes 27 = .ok (.ifCond .lt 33, 3) := by decide +kernel
theorem dX9_comes_3 : decode cX9_comes 3 = .ok (.iload_n 1, 1) := by decide +kernel
theorem dX9_comes_30 : decode cX9_comes 30 = .ok (.aload_n 0, 1) := by decide +kernel
theorem dX9_comes_31 : decode cX9_comes 31 = .ok (.iload_n 1, 1) := by decide +kernel
theorem dX9_comes_32 : decode cX9_comes 32 = .ok (.iload 5, 2) := by decide +kernel
theorem dX9_comes_34 : decode cX9_comes 34 = .ok (.invokevirtual 297, 3) := by decide +kernel
theorem dX9_comes_37 : decode cX9_comes 37 = .ok (.ifCond .eq 5, 3) := by decide +kernel
theorem dX9_comes_4 : decode cX9_comes 4 = .ok (.imul, 1) := by decide +kernel
theorem dX9_comes_40 : decode cX9_comes 40 = .ok (.iconst 1, 1) := by decide +kernel
theorem dX9_comes_41 : decode cX9_comes 41 = .ok (.ireturn, 1) := by decide +kernel
theorem dX9_comes_42 : decode cX9_comes 42 = .ok (.aload_n 0, 1) := by decide +kernel
theorem dX9_comes_43 : decode cX9_comes 43 = .ok (.getfield 53, 3) := by decide +kernel
theorem dX9_comes_46 : decode cX9_comes 46 = .ok (.sipush 3000, 3) := by decide +kernel
theorem dX9_comes_49 : decode cX9_comes 49 = .ok (.iload_n 1, 1) := by decide +kernel
theorem dX9_comes_5 : decode cX9_comes 5 = .ok (.aload_n 0, 1) := by decide +kernel
theorem dX9_comes_50 : decode cX9_comes 50 = .ok (.imul, 1) := by decide +kernel
theorem dX9_comes_51 : decode cX9_comes 51 = .ok (.iload 5, 2) := by decide +kernel
theorem dX9_comes_53 : decode cX9_comes 53 = .ok (.iadd, 1) := by decide +kernel
theorem dX9_comes_54 : decode cX9_comes 54 = .ok (.iaload, 1) := by decide +kernel
theorem dX9_comes_55 : decode cX9_comes 55 = .ok (.istore 5, 2) := by decide +kernel
theorem dX9_comes_57 : decode cX9_comes 57 = .ok (.goto (-32), 3) := by decide +kernel
theorem dX9_comes_6 : decode cX9_comes 6 = .ok (.getfield 75, 3) := by decide +kernel
theorem dX9_comes_60 : decode cX9_comes 60 = .ok (.aload_n 0, 1) := by decide +kernel
theorem dX9_comes_61 : decode cX9_comes 61 = .ok (.getfield 59, 3) := by decide +kernel
theorem dX9_comes_64 : decode cX9_comes 64 = .ok (.iload_n 1, 1) := by decide +kernel
theorem dX9_comes_65 : decode cX9_comes 65 = .ok (.iaload, 1) := by decide +kernel
theorem dX9_comes_66 : decode cX9_comes 66 = .ok (.istore 5, 2) := by decide +kernel
theorem dX9_comes_68 : decode cX9_comes 68 = .ok (.iload 5, 2) := by decide +kernel
theorem dX9_comes_70 : decode cX9_comes 70 = .ok (.sipush 3000, 3) := by decide +kernel
theorem dX9_comes_73 : decode cX9_comes 73 = .ok (.if_icmp .ne 5, 3) := by decide +kernel
theorem dX9_comes_76 : decode cX9_comes 76 = .ok (.iconst 0, 1) := by decide +kernel
theorem dX9_comes_77 : decode cX9_comes 77 = .ok (.ireturn, 1) := by decide +kernel
theorem dX9_comes_78 : decode cX9_comes 78 = .ok (.iconst 0, 1) := by decide +kernel
theorem dX9_comes_79 : decode cX9_comes 79 = .ok (.istore 6, 2) := by decide +kernel
theorem dX9_comes_81 : decode cX9_comes 81 = .ok (.iload 6, 2) := by decide +kernel
theorem dX9_comes_83 : decode cX9_comes 83 = .ok (.bipush 58, 2) := by decide +kernel
theorem dX9_comes_85 : decode cX9_comes 85 = .ok (.if_icmp .ge 35, 3) := by decide +kernel
theorem dX9_comes_88 : decode cX9_comes 88 = .ok (.aload_n 0, 1) := by decide +kernel
theorem dX9_comes_89 : decode cX9_comes 89 = .ok (.getfield 44, 3) := by decide +kernel
theorem dX9_comes_9 : decode cX9_comes 9 = .ok (.iconst 0, 1) := by decide +kernel
theorem dX9_comes_92 : decode cX9_comes 92 = .ok (.sipush 3000, 3) := by decide +kernel
theorem dX9_comes_95 : decode cX9_comes 95 = .ok (.iload_n 1, 1) := by decide +kernel
theorem dX9_comes_96 : decode cX9_comes 96 = .ok (.imul, 1) := by decide +kernel
theorem dX9_comes_97 : decode cX9_comes 97 = .ok (.iload 5, 2) := by decide +kernel
theorem dX9_comes_99 : decode cX9_comes 99 = .ok (.iadd, 1) := by decide +kernel
theorem gy_at {g : Nat → Int32} {a b : Nat} {x : Int32} (h : g a = x) (e : b = a) : g b = x := e ▸ h
theorem gy_decN {n : Nat} (h : 1 ≤ n) : nI n + Int32.ofInt (-1) = nI (n - 1) := (gy_dec n).trans (pk_sub (a := n) (b := 1) h)
theorem gy_m1l {i : Nat} (hi : i < 2 ^ 30) (h : nI i - 1 ≤ 0) : i ≤ 1 := by
  by_cases e : i ≤ 1
  · exact e
  · rw [show nI i - 1 = nI (i - 1) from pk_sub (a := i) (b := 1) (by omega)] at h
    have := (nI_leI (a := i - 1) (b := 0) (by omega) (by decide)).mp h
    omega
theorem gy_m1g {i : Nat} (hi : i < 2 ^ 30) (h : ¬ nI i - 1 ≤ 0) : 1 < i := by
  by_cases e : 1 < i
  · exact e
  · have e2 : i = 0 ∨ i = 1 := by omega
    rcases e2 with e2 | e2
    · subst e2; exact absurd (by decide) h
    · subst e2; exact absurd (by decide) h
/-- a STATE is laid at b: so far its first i numbers -/
def gRow (g sf nw : Nat → Int32) (b i : Nat) : Prop := (∀ j, j < i → g (b + j) = nw j) ∧ ∀ j, (j < b ∨ b + i ≤ j) → g j = sf j
theorem gRow_0 {sf nw : Nat → Int32} {b : Nat} : gRow sf sf nw b 0 := ⟨fun j h => absurd h (Nat.not_lt_zero j), fun _ _ => rfl⟩
theorem gRow_s {g sf nw : Nat → Int32} {b i a : Nat} (h : gRow g sf nw b i) (ha : a = b + i) : gRow (upd g a (nw i)) sf nw b (i + 1) := by
  subst ha
  refine ⟨fun j hj => ?_, fun j hj => ?_⟩
  · by_cases e : j = i
    · subst e; exact pk_us
    · rw [pk_un (by omega)]; exact h.1 j (by omega)
  · rw [pk_un (by omega)]; exact h.2 j (by omega)
theorem gRow_e {g sf nw : Nat → Int32} {b i d : Nat} (h : gRow g sf nw b i) (e : i = d) : gRow g sf nw b d := e ▸ h
/-- what comes leaves -/
def gCo (z : Int32) (S S9 : Nat → Nat) (sf sf9 fr fr9 nf nf9 hf hf9 nw : Nat → Int32) (s : Nat) (x : Int32) : Prop := ((z = 0 ∨ z = 1) ∧ S9 = S ∧ sf9 = sf ∧ fr9 = fr ∧ nf9 = nf ∧ hf9 = hf) ∨ (z = 1 ∧ S s < 3000 ∧ S9 = updN S s (S s + 1) ∧ gRow sf9 sf nw ((3000 * s + S s) * 58) 58 ∧ fr9 = upd fr (3000 * s + S s) x ∧ ∃ h, h < 4096 ∧ nf9 = upd nf (3000 * s + S s) (hf (4096 * s + h)) ∧ hf9 = upd hf (4096 * s + h) (nI (S s)))
theorem gCo_le {z : Int32} {S S9 : Nat → Nat} {sf sf9 fr fr9 nf nf9 hf hf9 nw : Nat → Int32} {s : Nat} {x : Int32} (h : gCo z S S9 sf sf9 fr fr9 nf nf9 hf hf9 nw s x) (hS : S s ≤ 3000) : S s ≤ S9 s ∧ S9 s ≤ 3000 ∧ ∀ j, j ≠ s → S9 j = S j := by
  rcases h with ⟨_, rfl, _⟩ | ⟨_, h1, rfl, _⟩
  · exact ⟨Nat.le_refl _, hS, fun _ _ => rfl⟩
  · exact ⟨by rw [updN_s]; omega, by rw [updN_s]; omega, fun j hj => updN_n hj⟩