theorem dX8_outcomes_0 : decode cX8_outcomes 0 = .ok (.aload_n 0, 1) := by decide +kernel
theorem dX8_outcomes_1 : decode cX8_outcomes 1 = .ok (.getfield 79, 3) := by decide +kernel
theorem dX8_outcomes_11 : decode cX8_outcomes 11 = .ok (.ifCond .ne 5, 3) := by decide +kernel
theorem dX8_outcomes_14 : decode cX8_outcomes 14 = .ok (.iconst (-1), 1) := by decide +kernel
theorem dX8_outcomes_15 : decode cX8_outcomes 15 = .ok (.ireturn, 1) := by decide +kernel
theorem dX8_outcomes_16 : decode cX8_outcomes 16 = .ok (.aload_n 0, 1) := by decide +kernel
theorem dX8_outcomes_17 : decode cX8_outcomes 17 = .ok (.iload_n 1, 1) := by decide +kernel
theorem dX8_outcomes_18 : decode cX8_outcomes 18 = .ok (.invokevirtual 149, 3) := by decide +kernel
theorem dX8_outcomes_21 : decode cX8_outcomes 21 = .ok (.astore_n 2, 1) := by decide +kernel
theorem dX8_outcomes_22 : decode cX8_outcomes 22 = .ok (.aload_n 2, 1) := by decide +kernel
theorem dX8_outcomes_23 : decode cX8_outcomes 23 = .ok (.getfield 153, 3) := by decide +kernel
theorem dX8_outcomes_26 : decode cX8_outcomes 26 = .ok (.ifCond .eq 8, 3) := by decide +kernel
theorem dX8_outcomes_29 : decode cX8_outcomes 29 = .ok (.bipush (-2), 2) := by decide +kernel
theorem dX8_outcomes_31 : decode cX8_outcomes 31 = .ok (.goto 7, 3) := by decide +kernel
theorem dX8_outcomes_34 : decode cX8_outcomes 34 = .ok (.aload_n 2, 1) := by decide +kernel
theorem dX8_outcomes_35 : decode cX8_outcomes 35 = .ok (.getfield 156, 3) := by decide +kernel
theorem dX8_outcomes_38 : decode cX8_outcomes 38 = .ok (.ireturn, 1) := by decide +kernel
theorem dX8_outcomes_4 : decode cX8_outcomes 4 = .ok (.ifCond .eq 10, 3) := by decide +kernel
theorem dX8_outcomes_7 : decode cX8_outcomes 7 = .ok (.iload_n 1, 1) := by decide +kernel
theorem dX8_outcomes_8 : decode cX8_outcomes 8 = .ok (.invokestatic 111, 3) := by decide +kernel
theorem gG_up {L : Nat → Nat} {pf : Nat → Int32} {b b' : Nat} (h : gG L pf b) (hb : b ≤ b') : gG L pf b' := fun k hk i hi => gIns_up (h k hk i hi) hb
theorem gL6_8 {L : Nat → Nat} (h : ∀ k, k < 3 → L k ≤ 6) : ∀ k, k < 3 → L k ≤ 8 := fun k hk => Nat.le_trans (h k hk) (by decide)