theorem dX6_readPart_0 : decode cX6_readPart 0 = .ok (.iload_n 2, 1) := by decide +kernel
theorem dX6_readPart_1 : decode cX6_readPart 1 = .ok (.bipush 82, 2) := by decide +kernel
theorem dX6_readPart_10 : decode cX6_readPart 10 = .ok (.istore_n 3, 1) := by decide +kernel
theorem dX6_readPart_102 : decode cX6_readPart 102 = .ok (.istore 4, 2) := by decide +kernel
theorem dX6_readPart_104 : decode cX6_readPart 104 = .ok (.aload_n 0, 1) := by decide +kernel
theorem dX6_readPart_105 : decode cX6_readPart 105 = .ok (.getfield 12, 3) := by decide +kernel
theorem dX6_readPart_108 : decode cX6_readPart 108 = .ok (.getfield 168, 3) := by decide +kernel
theorem dX6_readPart_11 : decode cX6_readPart 11 = .ok (.aload_n 0, 1) := by decide +kernel
theorem dX6_readPart_111 : decode cX6_readPart 111 = .ok (.iload_n 1, 1) := by decide +kernel
theorem dX6_readPart_112 : decode cX6_readPart 112 = .ok (.iload_n 3, 1) := by decide +kernel
theorem dX6_readPart_113 : decode cX6_readPart 113 = .ok (.iadd, 1) := by decide +kernel
theorem dX6_readPart_114 : decode cX6_readPart 114 = .ok (.aload_n 0, 1) := by decide +kernel
theorem dX6_readPart_115 : decode cX6_readPart 115 = .ok (.getfield 122, 3) := by decide +kernel
theorem dX6_readPart_118 : decode cX6_readPart 118 = .ok (.iastore, 1) := by decide +kernel
theorem dX6_readPart_119 : decode cX6_readPart 119 = .ok (.aload_n 0, 1) := by decide +kernel
theorem dX6_readPart_12 : decode cX6_readPart 12 = .ok (.getfield 12, 3) := by decide +kernel
theorem dX6_readPart_120 : decode cX6_readPart 120 = .ok (.getfield 12, 3) := by decide +kernel
theorem dX6_readPart_123 : decode cX6_readPart 123 = .ok (.getfield 168, 3) := by decide +kernel
theorem dX6_readPart_126 : decode cX6_readPart 126 = .ok (.iload_n 1, 1) := by decide +kernel
theorem dX6_readPart_127 : decode cX6_readPart 127 = .ok (.iload_n 3, 1) := by decide +kernel
theorem dX6_readPart_128 : decode cX6_readPart 128 = .ok (.iadd, 1) := by decide +kernel
theorem dX6_readPart_129 : decode cX6_readPart 129 = .ok (.iconst 1, 1) := by decide +kernel
theorem dX6_readPart_130 : decode cX6_readPart 130 = .ok (.iadd, 1) := by decide +kernel
theorem dX6_readPart_131 : decode cX6_readPart 131 = .ok (.aload_n 0, 1) := by decide +kernel
theorem dX6_readPart_132 : decode cX6_readPart 132 = .ok (.getfield 108, 3) := by decide +kernel
theorem dX6_readPart_135 : decode cX6_readPart 135 = .ok (.iastore, 1) := by decide +kernel
theorem dX6_readPart_136 : decode cX6_readPart 136 = .ok (.iload 4, 2) := by decide +kernel
theorem dX6_readPart_138 : decode cX6_readPart 138 = .ok (.ireturn, 1) := by decide +kernel
theorem dX6_readPart_15 : decode cX6_readPart 15 = .ok (.getfield 168, 3) := by decide +kernel
theorem dX6_readPart_18 : decode cX6_readPart 18 = .ok (.iload_n 1, 1) := by decide +kernel
theorem dX6_readPart_19 : decode cX6_readPart 19 = .ok (.iconst 2, 1) := by decide +kernel
theorem dX6_readPart_20 : decode cX6_readPart 20 = .ok (.iadd, 1) := by decide +kernel
theorem dX6_readPart_21 : decode cX6_readPart 21 = .ok (.aload_n 0, 1) := by decide +kernel
theorem dX6_readPart_22 : decode cX6_readPart 22 = .ok (.getfield 122, 3) := by decide +kernel
theorem dX6_readPart_25 : decode cX6_readPart 25 = .ok (.iastore, 1) := by decide +kernel
theorem dX6_readPart_26 : decode cX6_readPart 26 = .ok (.iload_n 3, 1) := by decide +kernel
theorem dX6_readPart_27 : decode cX6_readPart 27 = .ok (.ireturn, 1) := by decide +kernel
theorem dX6_readPart_28 : decode cX6_readPart 28 = .ok (.iload_n 2, 1) := by decide +kernel
theorem dX6_readPart_29 : decode cX6_readPart 29 = .ok (.bipush 67, 2) := by decide +kernel
theorem dX6_readPart_3 : decode cX6_readPart 3 = .ok (.if_icmp .ne 25, 3) := by decide +kernel
theorem dX6_readPart_31 : decode cX6_readPart 31 = .ok (.if_icmp .ne 25, 3) := by decide +kernel
theorem dX6_readPart_34 : decode cX6_readPart 34 = .ok (.aload_n 0, 1) := by decide +kernel
theorem dX6_readPart_35 : decode cX6_readPart 35 = .ok (.invokevirtual 105, 3) := by decide +kernel
theorem dX6_readPart_38 : decode cX6_readPart 38 = .ok (.istore_n 3, 1) := by decide +kernel
theorem dX6_readPart_39 : decode cX6_readPart 39 = .ok (.aload_n 0, 1) := by decide +kernel
theorem dX6_readPart_40 : decode cX6_readPart 40 = .ok (.getfield 12, 3) := by decide +kernel
theorem dX6_readPart_43 : decode cX6_readPart 43 = .ok (.getfield 168, 3) := by decide +kernel
theorem dX6_readPart_46 : decode cX6_readPart 46 = .ok (.iload_n 1, 1) := by decide +kernel
theorem dX6_readPart_47 : decode cX6_readPart 47 = .ok (.iconst 1, 1) := by decide +kernel
theorem dX6_readPart_48 : decode cX6_readPart 48 = .ok (.iadd, 1) := by decide +kernel
theorem dX6_readPart_49 : decode cX6_readPart 49 = .ok (.aload_n 0, 1) := by decide +kernel
theorem dX6_readPart_50 : decode cX6_readPart 50 = .ok (.getfield 108, 3) := by decide +kernel
theorem dX6_readPart_53 : decode cX6_readPart 53 = .ok (.iastore, 1) := by decide +kernel
theorem dX6_readPart_54 : decode cX6_readPart 54 = .ok (.iload_n 3, 1) := by decide +kernel
theorem dX6_readPart_55 : decode cX6_readPart 55 = .ok (.ireturn, 1) := by decide +kernel
theorem dX6_readPart_56 : decode cX6_readPart 56 = .ok (.iload_n 2, 1) := by decide +kernel
theorem dX6_readPart_57 : decode cX6_readPart 57 = .ok (.bipush 83, 2) := by decide +kernel
theorem dX6_readPart_59 : decode cX6_readPart 59 = .ok (.if_icmp .ne 26, 3) := by decide +kernel
theorem dX6_readPart_6 : decode cX6_readPart 6 = .ok (.aload_n 0, 1) := by decide +kernel
theorem dX6_readPart_62 : decode cX6_readPart 62 = .ok (.aload_n 0, 1) := by decide +kernel
theorem dX6_readPart_63 : decode cX6_readPart 63 = .ok (.invokevirtual 171, 3) := by decide +kernel
theorem dX6_readPart_66 : decode cX6_readPart 66 = .ok (.istore_n 3, 1) := by decide +kernel
theorem dX6_readPart_67 : decode cX6_readPart 67 = .ok (.aload_n 0, 1) := by decide +kernel
theorem dX6_readPart_68 : decode cX6_readPart 68 = .ok (.getfield 12, 3) := by decide +kernel
theorem dX6_readPart_7 : decode cX6_readPart 7 = .ok (.invokevirtual 165, 3) := by decide +kernel
theorem dX6_readPart_71 : decode cX6_readPart 71 = .ok (.getfield 168, 3) := by decide +kernel
theorem dX6_readPart_74 : decode cX6_readPart 74 = .ok (.iload_n 1, 1) := by decide +kernel
theorem dX6_readPart_75 : decode cX6_readPart 75 = .ok (.bipush 7, 2) := by decide +kernel
theorem dX6_readPart_77 : decode cX6_readPart 77 = .ok (.iadd, 1) := by decide +kernel
theorem dX6_readPart_78 : decode cX6_readPart 78 = .ok (.aload_n 0, 1) := by decide +kernel
theorem dX6_readPart_79 : decode cX6_readPart 79 = .ok (.getfield 108, 3) := by decide +kernel
theorem dX6_readPart_82 : decode cX6_readPart 82 = .ok (.iastore, 1) := by decide +kernel
theorem dX6_readPart_83 : decode cX6_readPart 83 = .ok (.iload_n 3, 1) := by decide +kernel
theorem dX6_readPart_84 : decode cX6_readPart 84 = .ok (.ireturn, 1) := by decide +kernel
theorem dX6_readPart_85 : decode cX6_readPart 85 = .ok (.iload_n 2, 1) := by decide +kernel
theorem dX6_readPart_86 : decode cX6_readPart 86 = .ok (.bipush 86, 2) := by decide +kernel
theorem dX6_readPart_88 : decode cX6_readPart 88 = .ok (.if_icmp .ne 7, 3) := by decide +kernel
theorem dX6_readPart_91 : decode cX6_readPart 91 = .ok (.iconst 3, 1) := by decide +kernel
theorem dX6_readPart_92 : decode cX6_readPart 92 = .ok (.goto 4, 3) := by decide +kernel
theorem dX6_readPart_95 : decode cX6_readPart 95 = .ok (.iconst 5, 1) := by decide +kernel
theorem dX6_readPart_96 : decode cX6_readPart 96 = .ok (.istore_n 3, 1) := by decide +kernel
theorem dX6_readPart_97 : decode cX6_readPart 97 = .ok (.aload_n 0, 1) := by decide +kernel
theorem dX6_readPart_98 : decode cX6_readPart 98 = .ok (.iconst 1, 1) := by decide +kernel
theorem dX6_readPart_99 : decode cX6_readPart 99 = .ok (.invokevirtual 111, 3) := by decide +kernel
theorem gTkN {z : Int32} {P Q : Prop} (h : (z = 0 ∧ P) ∨ (z = 1 ∧ Q)) (hz : z = 0) : P := by
  rcases h with h | h
  · exact h.2
  · exact absurd (hz.symm.trans h.1) (by decide)
theorem gTkz {z : Int32} {P Q : Prop} (h : (z = 0 ∧ P) ∨ (z = 1 ∧ Q)) : z = 0 ∨ z = 1 := h.imp And.left And.left
/-- an INS as it was read: the CELL may be too large if a late fault is noted -/
def gInq (pf : Nat → Int32) (n : Nat) (lp : Int32) : Prop := ∃ q, q ≤ 8 ∧ pf (n + 0) = nI q ∧ (q ≠ 1 → q ≠ 4 → ∃ r, r < 3 ∧ pf (n + 2) = nI r) ∧ (q ≠ 2 → q ≠ 3 → q ≠ 4 → q ≠ 8 → ∃ x, x ≤ 999 ∧ pf (n + 1) = nI x ∧ (lp = (-1) → x < 4)) ∧ (pf (n + 3) = (-1) ∨ ∃ r, r < 3 ∧ pf (n + 3) = nI r) ∧ (pf (n + 5) = (-1) ∨ ∃ r, r < 3 ∧ pf (n + 5) = nI r) ∧ (q = 8 → ∃ y, y ≤ 999 ∧ pf (n + 7) = nI y)
theorem gInq_lp {pf : Nat → Int32} {n : Nat} {lp lp' : Int32} (h : gInq pf n lp) (hl : lp' = (-1) → lp = (-1)) : gInq pf n lp' := by
  obtain ⟨q, h1, h2, h3, h4, h5⟩ := h
  refine ⟨q, h1, h2, h3, fun a b c d => ?_, h5⟩
  obtain ⟨x, x1, x2, x3⟩ := h4 a b c d
  exact ⟨x, x1, x2, fun e => x3 (hl e)⟩
theorem gInq_fr {pf pf' : Nat → Int32} {n : Nat} {lp : Int32} (h : gInq pf n lp) (he : ∀ j, n ≤ j → j < n + 8 → pf' j = pf j) : gInq pf' n lp := by
  unfold gInq at h ⊢
  rw [he (n + 0) (by omega) (by omega), he (n + 1) (by omega) (by omega), he (n + 2) (by omega) (by omega), he (n + 3) (by omega) (by omega), he (n + 5) (by omega) (by omega), he (n + 7) (by omega) (by omega)]
  exact h
theorem gIns_fr {pf pf' : Nat → Int32} {n b : Nat} (h : gIns pf n b) (he : ∀ j, n ≤ j → j < n + 8 → pf' j = pf j) : gIns pf' n b := by
  unfold gIns at h ⊢
  rw [he (n + 0) (by omega) (by omega), he (n + 1) (by omega) (by omega), he (n + 2) (by omega) (by omega), he (n + 3) (by omega) (by omega), he (n + 5) (by omega) (by omega), he (n + 7) (by omega) (by omega)]
  exact h
theorem gIns_q {pf : Nat → Int32} {n m : Nat} {lp : Int32} (h : gInq pf n lp) (hl : lp = (-1)) (hm : m ≤ 5) (hs : pf (n + 7) ≤ nI m) : gIns pf n 5 := by
  obtain ⟨q, h1, h2, h3, h4, h5, h6, h7⟩ := h
  refine ⟨q, h1, h2, h3, fun a b c d => ?_, h5, h6, fun e => ?_⟩
  · obtain ⟨x, x1, x2, x3⟩ := h4 a b c d
    exact ⟨x, x3 hl, x2⟩
  · obtain ⟨y, y1, y2⟩ := h7 e
    rw [y2] at hs
    have := (nI_leI (a := y) (b := m) (by omega) (by omega)).mp hs
    exact ⟨y, by omega, y2⟩