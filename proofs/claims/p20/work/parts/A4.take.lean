theorem dX6_takeCell_0 : decode cX6_takeCell 0 = .ok (.aload_n 0, 1) := by decide +kernel
theorem dX6_takeCell_1 : decode cX6_takeCell 1 = .ok (.aload_n 0, 1) := by decide +kernel
theorem dX6_takeCell_10 : decode cX6_takeCell 10 = .ok (.putfield 108, 3) := by decide +kernel
theorem dX6_takeCell_13 : decode cX6_takeCell 13 = .ok (.aload_n 0, 1) := by decide +kernel
theorem dX6_takeCell_14 : decode cX6_takeCell 14 = .ok (.bipush 16, 2) := by decide +kernel
theorem dX6_takeCell_16 : decode cX6_takeCell 16 = .ok (.invokevirtual 102, 3) := by decide +kernel
theorem dX6_takeCell_19 : decode cX6_takeCell 19 = .ok (.ifCond .ne 5, 3) := by decide +kernel
theorem dX6_takeCell_2 : decode cX6_takeCell 2 = .ok (.getfield 29, 3) := by decide +kernel
theorem dX6_takeCell_22 : decode cX6_takeCell 22 = .ok (.iconst 0, 1) := by decide +kernel
theorem dX6_takeCell_23 : decode cX6_takeCell 23 = .ok (.ireturn, 1) := by decide +kernel
theorem dX6_takeCell_24 : decode cX6_takeCell 24 = .ok (.aload_n 0, 1) := by decide +kernel
theorem dX6_takeCell_25 : decode cX6_takeCell 25 = .ok (.getfield 108, 3) := by decide +kernel
theorem dX6_takeCell_28 : decode cX6_takeCell 28 = .ok (.iconst 4, 1) := by decide +kernel
theorem dX6_takeCell_29 : decode cX6_takeCell 29 = .ok (.if_icmp .lt 13, 3) := by decide +kernel
theorem dX6_takeCell_32 : decode cX6_takeCell 32 = .ok (.aload_n 0, 1) := by decide +kernel
theorem dX6_takeCell_33 : decode cX6_takeCell 33 = .ok (.aload_n 0, 1) := by decide +kernel
theorem dX6_takeCell_34 : decode cX6_takeCell 34 = .ok (.getfield 45, 3) := by decide +kernel
theorem dX6_takeCell_37 : decode cX6_takeCell 37 = .ok (.iconst 1, 1) := by decide +kernel
theorem dX6_takeCell_38 : decode cX6_takeCell 38 = .ok (.isub, 1) := by decide +kernel
theorem dX6_takeCell_39 : decode cX6_takeCell 39 = .ok (.invokevirtual 115, 3) := by decide +kernel
theorem dX6_takeCell_42 : decode cX6_takeCell 42 = .ok (.iconst 1, 1) := by decide +kernel
theorem dX6_takeCell_43 : decode cX6_takeCell 43 = .ok (.ireturn, 1) := by decide +kernel
theorem dX6_takeCell_5 : decode cX6_takeCell 5 = .ok (.aload_n 0, 1) := by decide +kernel
theorem dX6_takeCell_6 : decode cX6_takeCell 6 = .ok (.getfield 45, 3) := by decide +kernel
theorem dX6_takeCell_9 : decode cX6_takeCell 9 = .ok (.iaload, 1) := by decide +kernel
theorem dX6_takeReg_0 : decode cX6_takeReg 0 = .ok (.aload_n 0, 1) := by decide +kernel
theorem dX6_takeReg_1 : decode cX6_takeReg 1 = .ok (.getfield 22, 3) := by decide +kernel
theorem dX6_takeReg_10 : decode cX6_takeReg 10 = .ok (.iload_n 1, 1) := by decide +kernel
theorem dX6_takeReg_11 : decode cX6_takeReg 11 = .ok (.bipush 13, 2) := by decide +kernel
theorem dX6_takeReg_13 : decode cX6_takeReg 13 = .ok (.if_icmp .lt 9, 3) := by decide +kernel
theorem dX6_takeReg_16 : decode cX6_takeReg 16 = .ok (.iload_n 1, 1) := by decide +kernel
theorem dX6_takeReg_17 : decode cX6_takeReg 17 = .ok (.bipush 15, 2) := by decide +kernel
theorem dX6_takeReg_19 : decode cX6_takeReg 19 = .ok (.if_icmp .le 9, 3) := by decide +kernel
theorem dX6_takeReg_22 : decode cX6_takeReg 22 = .ok (.aload_n 0, 1) := by decide +kernel
theorem dX6_takeReg_23 : decode cX6_takeReg 23 = .ok (.iconst 1, 1) := by decide +kernel
theorem dX6_takeReg_24 : decode cX6_takeReg 24 = .ok (.invokevirtual 96, 3) := by decide +kernel
theorem dX6_takeReg_27 : decode cX6_takeReg 27 = .ok (.ireturn, 1) := by decide +kernel
theorem dX6_takeReg_28 : decode cX6_takeReg 28 = .ok (.aload_n 0, 1) := by decide +kernel
theorem dX6_takeReg_29 : decode cX6_takeReg 29 = .ok (.iload_n 1, 1) := by decide +kernel
theorem dX6_takeReg_30 : decode cX6_takeReg 30 = .ok (.bipush 13, 2) := by decide +kernel
theorem dX6_takeReg_32 : decode cX6_takeReg 32 = .ok (.isub, 1) := by decide +kernel
theorem dX6_takeReg_33 : decode cX6_takeReg 33 = .ok (.putfield 122, 3) := by decide +kernel
theorem dX6_takeReg_36 : decode cX6_takeReg 36 = .ok (.aload_n 0, 1) := by decide +kernel
theorem dX6_takeReg_37 : decode cX6_takeReg 37 = .ok (.iload_n 1, 1) := by decide +kernel
theorem dX6_takeReg_38 : decode cX6_takeReg 38 = .ok (.invokevirtual 102, 3) := by decide +kernel
theorem dX6_takeReg_4 : decode cX6_takeReg 4 = .ok (.aload_n 0, 1) := by decide +kernel
theorem dX6_takeReg_41 : decode cX6_takeReg 41 = .ok (.ireturn, 1) := by decide +kernel
theorem dX6_takeReg_5 : decode cX6_takeReg 5 = .ok (.getfield 45, 3) := by decide +kernel
theorem dX6_takeReg_8 : decode cX6_takeReg 8 = .ok (.iaload, 1) := by decide +kernel
theorem dX6_takeReg_9 : decode cX6_takeReg 9 = .ok (.istore_n 1, 1) := by decide +kernel
theorem dX6_takeSkip_0 : decode cX6_takeSkip 0 = .ok (.aload_n 0, 1) := by decide +kernel
theorem dX6_takeSkip_1 : decode cX6_takeSkip 1 = .ok (.bipush 12, 2) := by decide +kernel
theorem dX6_takeSkip_10 : decode cX6_takeSkip 10 = .ok (.ireturn, 1) := by decide +kernel
theorem dX6_takeSkip_11 : decode cX6_takeSkip 11 = .ok (.aload_n 0, 1) := by decide +kernel
theorem dX6_takeSkip_12 : decode cX6_takeSkip 12 = .ok (.aload_n 0, 1) := by decide +kernel
theorem dX6_takeSkip_13 : decode cX6_takeSkip 13 = .ok (.getfield 29, 3) := by decide +kernel
theorem dX6_takeSkip_16 : decode cX6_takeSkip 16 = .ok (.aload_n 0, 1) := by decide +kernel
theorem dX6_takeSkip_17 : decode cX6_takeSkip 17 = .ok (.getfield 45, 3) := by decide +kernel
theorem dX6_takeSkip_20 : decode cX6_takeSkip 20 = .ok (.iaload, 1) := by decide +kernel
theorem dX6_takeSkip_21 : decode cX6_takeSkip 21 = .ok (.putfield 108, 3) := by decide +kernel
theorem dX6_takeSkip_24 : decode cX6_takeSkip 24 = .ok (.aload_n 0, 1) := by decide +kernel
theorem dX6_takeSkip_25 : decode cX6_takeSkip 25 = .ok (.bipush 16, 2) := by decide +kernel
theorem dX6_takeSkip_27 : decode cX6_takeSkip 27 = .ok (.invokevirtual 102, 3) := by decide +kernel
theorem dX6_takeSkip_3 : decode cX6_takeSkip 3 = .ok (.invokevirtual 102, 3) := by decide +kernel
theorem dX6_takeSkip_30 : decode cX6_takeSkip 30 = .ok (.ireturn, 1) := by decide +kernel
theorem dX6_takeSkip_6 : decode cX6_takeSkip 6 = .ok (.ifCond .ne 5, 3) := by decide +kernel
theorem dX6_takeSkip_9 : decode cX6_takeSkip 9 = .ok (.iconst 0, 1) := by decide +kernel
theorem dX6_takeVal_0 : decode cX6_takeVal 0 = .ok (.aload_n 0, 1) := by decide +kernel
theorem dX6_takeVal_1 : decode cX6_takeVal 1 = .ok (.getfield 22, 3) := by decide +kernel
theorem dX6_takeVal_10 : decode cX6_takeVal 10 = .ok (.iload_n 1, 1) := by decide +kernel
theorem dX6_takeVal_100 : decode cX6_takeVal 100 = .ok (.bipush 16, 2) := by decide +kernel
theorem dX6_takeVal_102 : decode cX6_takeVal 102 = .ok (.invokevirtual 102, 3) := by decide +kernel
theorem dX6_takeVal_105 : decode cX6_takeVal 105 = .ok (.ireturn, 1) := by decide +kernel
theorem dX6_takeVal_11 : decode cX6_takeVal 11 = .ok (.ifCond .eq 34, 3) := by decide +kernel
theorem dX6_takeVal_14 : decode cX6_takeVal 14 = .ok (.iload_n 2, 1) := by decide +kernel
theorem dX6_takeVal_15 : decode cX6_takeVal 15 = .ok (.bipush 13, 2) := by decide +kernel
theorem dX6_takeVal_17 : decode cX6_takeVal 17 = .ok (.if_icmp .lt 28, 3) := by decide +kernel
theorem dX6_takeVal_20 : decode cX6_takeVal 20 = .ok (.iload_n 2, 1) := by decide +kernel
theorem dX6_takeVal_21 : decode cX6_takeVal 21 = .ok (.bipush 15, 2) := by decide +kernel
theorem dX6_takeVal_23 : decode cX6_takeVal 23 = .ok (.if_icmp .gt 22, 3) := by decide +kernel
theorem dX6_takeVal_26 : decode cX6_takeVal 26 = .ok (.aload_n 0, 1) := by decide +kernel
theorem dX6_takeVal_27 : decode cX6_takeVal 27 = .ok (.iload_n 2, 1) := by decide +kernel
theorem dX6_takeVal_28 : decode cX6_takeVal 28 = .ok (.bipush 13, 2) := by decide +kernel
theorem dX6_takeVal_30 : decode cX6_takeVal 30 = .ok (.isub, 1) := by decide +kernel
theorem dX6_takeVal_31 : decode cX6_takeVal 31 = .ok (.putfield 122, 3) := by decide +kernel
theorem dX6_takeVal_34 : decode cX6_takeVal 34 = .ok (.aload_n 0, 1) := by decide +kernel
theorem dX6_takeVal_35 : decode cX6_takeVal 35 = .ok (.iconst 0, 1) := by decide +kernel
theorem dX6_takeVal_36 : decode cX6_takeVal 36 = .ok (.putfield 108, 3) := by decide +kernel
theorem dX6_takeVal_39 : decode cX6_takeVal 39 = .ok (.aload_n 0, 1) := by decide +kernel
theorem dX6_takeVal_4 : decode cX6_takeVal 4 = .ok (.aload_n 0, 1) := by decide +kernel
theorem dX6_takeVal_40 : decode cX6_takeVal 40 = .ok (.iload_n 2, 1) := by decide +kernel
theorem dX6_takeVal_41 : decode cX6_takeVal 41 = .ok (.invokevirtual 102, 3) := by decide +kernel
theorem dX6_takeVal_44 : decode cX6_takeVal 44 = .ok (.ireturn, 1) := by decide +kernel
theorem dX6_takeVal_45 : decode cX6_takeVal 45 = .ok (.iload_n 2, 1) := by decide +kernel
theorem dX6_takeVal_46 : decode cX6_takeVal 46 = .ok (.bipush 20, 2) := by decide +kernel
theorem dX6_takeVal_48 : decode cX6_takeVal 48 = .ok (.if_icmp .ne 14, 3) := by decide +kernel
theorem dX6_takeVal_5 : decode cX6_takeVal 5 = .ok (.getfield 45, 3) := by decide +kernel
theorem dX6_takeVal_51 : decode cX6_takeVal 51 = .ok (.aload_n 0, 1) := by decide +kernel
theorem dX6_takeVal_52 : decode cX6_takeVal 52 = .ok (.bipush 20, 2) := by decide +kernel
theorem dX6_takeVal_54 : decode cX6_takeVal 54 = .ok (.invokevirtual 102, 3) := by decide +kernel
theorem dX6_takeVal_57 : decode cX6_takeVal 57 = .ok (.ifCond .ne 5, 3) := by decide +kernel
theorem dX6_takeVal_60 : decode cX6_takeVal 60 = .ok (.iconst 0, 1) := by decide +kernel
theorem dX6_takeVal_61 : decode cX6_takeVal 61 = .ok (.ireturn, 1) := by decide +kernel
theorem dX6_takeVal_62 : decode cX6_takeVal 62 = .ok (.aload_n 0, 1) := by decide +kernel
theorem dX6_takeVal_63 : decode cX6_takeVal 63 = .ok (.iconst (-1), 1) := by decide +kernel
theorem dX6_takeVal_64 : decode cX6_takeVal 64 = .ok (.putfield 122, 3) := by decide +kernel
theorem dX6_takeVal_67 : decode cX6_takeVal 67 = .ok (.aload_n 0, 1) := by decide +kernel
theorem dX6_takeVal_68 : decode cX6_takeVal 68 = .ok (.iload_n 2, 1) := by decide +kernel
theorem dX6_takeVal_69 : decode cX6_takeVal 69 = .ok (.bipush 20, 2) := by decide +kernel
theorem dX6_takeVal_71 : decode cX6_takeVal 71 = .ok (.if_icmp .ne 16, 3) := by decide +kernel
theorem dX6_takeVal_74 : decode cX6_takeVal 74 = .ok (.aload_n 0, 1) := by decide +kernel
theorem dX6_takeVal_75 : decode cX6_takeVal 75 = .ok (.getfield 29, 3) := by decide +kernel
theorem dX6_takeVal_78 : decode cX6_takeVal 78 = .ok (.aload_n 0, 1) := by decide +kernel
theorem dX6_takeVal_79 : decode cX6_takeVal 79 = .ok (.getfield 45, 3) := by decide +kernel
theorem dX6_takeVal_8 : decode cX6_takeVal 8 = .ok (.iaload, 1) := by decide +kernel
theorem dX6_takeVal_82 : decode cX6_takeVal 82 = .ok (.iaload, 1) := by decide +kernel
theorem dX6_takeVal_83 : decode cX6_takeVal 83 = .ok (.ineg, 1) := by decide +kernel
theorem dX6_takeVal_84 : decode cX6_takeVal 84 = .ok (.goto 12, 3) := by decide +kernel
theorem dX6_takeVal_87 : decode cX6_takeVal 87 = .ok (.aload_n 0, 1) := by decide +kernel
theorem dX6_takeVal_88 : decode cX6_takeVal 88 = .ok (.getfield 29, 3) := by decide +kernel
theorem dX6_takeVal_9 : decode cX6_takeVal 9 = .ok (.istore_n 2, 1) := by decide +kernel
theorem dX6_takeVal_91 : decode cX6_takeVal 91 = .ok (.aload_n 0, 1) := by decide +kernel
theorem dX6_takeVal_92 : decode cX6_takeVal 92 = .ok (.getfield 45, 3) := by decide +kernel
theorem dX6_takeVal_95 : decode cX6_takeVal 95 = .ok (.iaload, 1) := by decide +kernel
theorem dX6_takeVal_96 : decode cX6_takeVal 96 = .ok (.putfield 108, 3) := by decide +kernel
theorem dX6_takeVal_99 : decode cX6_takeVal 99 = .ok (.aload_n 0, 1) := by decide +kernel
theorem gW_c_fail : wsP_c_fail.all goodWord = true := by decide +kernel
theorem gTk0 {z fv fv9 x : Int32} {t t9 k : Nat} (h : (z = 0 ∧ t9 = t ∧ ¬ fv9 = 0) ∨ (z = 1 ∧ t9 = t + 1 ∧ t < 500 ∧ nI k = x ∧ fv9 = fv)) (ht : t ≤ 500) : t ≤ t9 ∧ t9 ≤ 500 := by
  rcases h with ⟨_, h, _⟩ | ⟨_, h, h2, _⟩ <;> omega
theorem gTk1 {z fv fv9 x : Int32} {t t9 k : Nat} (h : (z = 0 ∧ t9 = t ∧ ¬ fv9 = 0) ∨ (z = 1 ∧ t9 = t + 1 ∧ t < 500 ∧ nI k = x ∧ fv9 = fv)) : z = 0 ∨ z = 1 := h.imp And.left And.left
theorem gTk2 {z fv fv9 x : Int32} {t t9 k : Nat} {X : Prop} (h : (z = 0 ∧ t9 = t ∧ ¬ fv9 = 0) ∨ (z = 1 ∧ t9 = t + 1 ∧ t < 500 ∧ nI k = x ∧ fv9 = fv)) (hX : X) : (z = 0 ∧ ¬ fv9 = 0) ∨ (z = 1 ∧ fv9 = fv ∧ t < t9 ∧ X) := by
  rcases h with ⟨a, _, b⟩ | ⟨a, b, _, _, c⟩
  · exact Or.inl ⟨a, b⟩
  · exact Or.inr ⟨a, c, by omega, hX⟩
theorem gTk3 {z fv fv9 x : Int32} {t t9 k : Nat} {X : Prop} (h : (z = 0 ∧ t9 = t ∧ ¬ fv9 = 0) ∨ (z = 1 ∧ t9 = t + 1 ∧ t < 500 ∧ nI k = x ∧ fv9 = fv)) (hX : nI k = x → X) : (z = 0 ∧ ¬ fv9 = 0) ∨ (z = 1 ∧ fv9 = fv ∧ t < t9 ∧ X) := by
  rcases h with ⟨a, _, b⟩ | ⟨a, b, _, d, c⟩
  · exact Or.inl ⟨a, b⟩
  · exact Or.inr ⟨a, c, by omega, hX d⟩
theorem gTk4 {z fv0 fv fv9 : Int32} {t0 t t9 : Nat} {X : Prop} (h : (z = 0 ∧ ¬ fv9 = 0) ∨ (z = 1 ∧ fv9 = fv ∧ t < t9 ∧ X)) (hf : fv = fv0) (ht : t0 ≤ t) : (z = 0 ∧ ¬ fv9 = 0) ∨ (z = 1 ∧ fv9 = fv0 ∧ t0 < t9 ∧ X) := by
  rcases h with h | ⟨a, b, c, d⟩
  · exact Or.inl h
  · exact Or.inr ⟨a, b.trans hf, by omega, d⟩
theorem gTkY {z : Int32} {P Q : Prop} (h : (z = 0 ∧ P) ∨ (z = 1 ∧ Q)) (hz : ¬ z = 0) : Q := (h.resolve_left (fun q => hz q.1)).2