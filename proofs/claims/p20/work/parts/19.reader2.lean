theorem dX6_behindRun_0 : decode cX6_behindRun 0 = .ok (.aload_n 0, 1) := by decide +kernel
theorem dX6_behindRun_1 : decode cX6_behindRun 1 = .ok (.iload_n 2, 1) := by decide +kernel
theorem dX6_behindRun_10 : decode cX6_behindRun 10 = .ok (.invokestatic 78, 3) := by decide +kernel
theorem dX6_behindRun_13 : decode cX6_behindRun 13 = .ok (.istore 4, 2) := by decide +kernel
theorem dX6_behindRun_15 : decode cX6_behindRun 15 = .ok (.iload_n 2, 1) := by decide +kernel
theorem dX6_behindRun_16 : decode cX6_behindRun 16 = .ok (.iconst 1, 1) := by decide +kernel
theorem dX6_behindRun_17 : decode cX6_behindRun 17 = .ok (.iadd, 1) := by decide +kernel
theorem dX6_behindRun_18 : decode cX6_behindRun 18 = .ok (.istore 5, 2) := by decide +kernel
theorem dX6_behindRun_2 : decode cX6_behindRun 2 = .ok (.baload, 1) := by decide +kernel
theorem dX6_behindRun_20 : decode cX6_behindRun 20 = .ok (.iload 5, 2) := by decide +kernel
theorem dX6_behindRun_22 : decode cX6_behindRun 22 = .ok (.iload_n 1, 1) := by decide +kernel
theorem dX6_behindRun_23 : decode cX6_behindRun 23 = .ok (.if_icmp .ge 53, 3) := by decide +kernel
theorem dX6_behindRun_26 : decode cX6_behindRun 26 = .ok (.iload_n 3, 1) := by decide +kernel
theorem dX6_behindRun_27 : decode cX6_behindRun 27 = .ok (.ifCond .eq 13, 3) := by decide +kernel
theorem dX6_behindRun_3 : decode cX6_behindRun 3 = .ok (.invokestatic 74, 3) := by decide +kernel
theorem dX6_behindRun_30 : decode cX6_behindRun 30 = .ok (.aload_n 0, 1) := by decide +kernel
theorem dX6_behindRun_31 : decode cX6_behindRun 31 = .ok (.iload 5, 2) := by decide +kernel
theorem dX6_behindRun_33 : decode cX6_behindRun 33 = .ok (.baload, 1) := by decide +kernel
theorem dX6_behindRun_34 : decode cX6_behindRun 34 = .ok (.invokestatic 74, 3) := by decide +kernel
theorem dX6_behindRun_37 : decode cX6_behindRun 37 = .ok (.ifCond .ne 18, 3) := by decide +kernel
theorem dX6_behindRun_40 : decode cX6_behindRun 40 = .ok (.iload 4, 2) := by decide +kernel
theorem dX6_behindRun_42 : decode cX6_behindRun 42 = .ok (.ifCond .eq 17, 3) := by decide +kernel
theorem dX6_behindRun_45 : decode cX6_behindRun 45 = .ok (.aload_n 0, 1) := by decide +kernel
theorem dX6_behindRun_46 : decode cX6_behindRun 46 = .ok (.iload 5, 2) := by decide +kernel
theorem dX6_behindRun_48 : decode cX6_behindRun 48 = .ok (.baload, 1) := by decide +kernel
theorem dX6_behindRun_49 : decode cX6_behindRun 49 = .ok (.invokestatic 78, 3) := by decide +kernel
theorem dX6_behindRun_52 : decode cX6_behindRun 52 = .ok (.ifCond .eq 7, 3) := by decide +kernel
theorem dX6_behindRun_55 : decode cX6_behindRun 55 = .ok (.iconst 1, 1) := by decide +kernel
theorem dX6_behindRun_56 : decode cX6_behindRun 56 = .ok (.goto 4, 3) := by decide +kernel
theorem dX6_behindRun_59 : decode cX6_behindRun 59 = .ok (.iconst 0, 1) := by decide +kernel
theorem dX6_behindRun_6 : decode cX6_behindRun 6 = .ok (.istore_n 3, 1) := by decide +kernel
theorem dX6_behindRun_60 : decode cX6_behindRun 60 = .ok (.istore 6, 2) := by decide +kernel
theorem dX6_behindRun_62 : decode cX6_behindRun 62 = .ok (.iload 6, 2) := by decide +kernel
theorem dX6_behindRun_64 : decode cX6_behindRun 64 = .ok (.ifCond .ne 6, 3) := by decide +kernel
theorem dX6_behindRun_67 : decode cX6_behindRun 67 = .ok (.iload 5, 2) := by decide +kernel
theorem dX6_behindRun_69 : decode cX6_behindRun 69 = .ok (.ireturn, 1) := by decide +kernel
theorem dX6_behindRun_7 : decode cX6_behindRun 7 = .ok (.aload_n 0, 1) := by decide +kernel
theorem dX6_behindRun_70 : decode cX6_behindRun 70 = .ok (.iinc 5 1, 3) := by decide +kernel
theorem dX6_behindRun_73 : decode cX6_behindRun 73 = .ok (.goto (-53), 3) := by decide +kernel
theorem dX6_behindRun_76 : decode cX6_behindRun 76 = .ok (.iload_n 1, 1) := by decide +kernel
theorem dX6_behindRun_77 : decode cX6_behindRun 77 = .ok (.ireturn, 1) := by decide +kernel
theorem dX6_behindRun_8 : decode cX6_behindRun 8 = .ok (.iload_n 2, 1) := by decide +kernel
theorem dX6_behindRun_9 : decode cX6_behindRun 9 = .ok (.baload, 1) := by decide +kernel
theorem gy_run {P : Nat → Prop} {fr i : Nat} (h : ∀ j, fr ≤ j → j < i → P j) (hi : P i) : ∀ j, fr ≤ j → j < i + 1 → P j := by
  intro j h1 h2
  by_cases e : j = i
  · subst e; exact hi
  · exact h j h1 (by omega)