theorem dX9_cures_0 : decode cX9_cures 0 = .ok (.aload_n 0, 1) := by decide +kernel
theorem dX9_cures_1 : decode cX9_cures 1 = .ok (.iload_n 1, 1) := by decide +kernel
theorem dX9_cures_10 : decode cX9_cures 10 = .ok (.iconst 0, 1) := by decide +kernel
theorem dX9_cures_11 : decode cX9_cures 11 = .ok (.invokevirtual 335, 3) := by decide +kernel
theorem dX9_cures_14 : decode cX9_cures 14 = .ok (.aload_n 0, 1) := by decide +kernel
theorem dX9_cures_15 : decode cX9_cures 15 = .ok (.getfield 62, 3) := by decide +kernel
theorem dX9_cures_18 : decode cX9_cures 18 = .ok (.iconst 2, 1) := by decide +kernel
theorem dX9_cures_19 : decode cX9_cures 19 = .ok (.baload, 1) := by decide +kernel
theorem dX9_cures_2 : decode cX9_cures 2 = .ok (.iload_n 2, 1) := by decide +kernel
theorem dX9_cures_20 : decode cX9_cures 20 = .ok (.ifCond .eq 6, 3) := by decide +kernel
theorem dX9_cures_23 : decode cX9_cures 23 = .ok (.bipush (-2), 2) := by decide +kernel
theorem dX9_cures_25 : decode cX9_cures 25 = .ok (.ireturn, 1) := by decide +kernel
theorem dX9_cures_26 : decode cX9_cures 26 = .ok (.aload_n 0, 1) := by decide +kernel
theorem dX9_cures_27 : decode cX9_cures 27 = .ok (.getfield 72, 3) := by decide +kernel
theorem dX9_cures_3 : decode cX9_cures 3 = .ok (.invokevirtual 390, 3) := by decide +kernel
theorem dX9_cures_30 : decode cX9_cures 30 = .ok (.iconst 2, 1) := by decide +kernel
theorem dX9_cures_31 : decode cX9_cures 31 = .ok (.iaload, 1) := by decide +kernel
theorem dX9_cures_32 : decode cX9_cures 32 = .ok (.aload_n 0, 1) := by decide +kernel
theorem dX9_cures_33 : decode cX9_cures 33 = .ok (.getfield 72, 3) := by decide +kernel
theorem dX9_cures_36 : decode cX9_cures 36 = .ok (.iconst 0, 1) := by decide +kernel
theorem dX9_cures_37 : decode cX9_cures 37 = .ok (.iaload, 1) := by decide +kernel
theorem dX9_cures_38 : decode cX9_cures 38 = .ok (.if_icmp .eq 5, 3) := by decide +kernel
theorem dX9_cures_41 : decode cX9_cures 41 = .ok (.iconst 0, 1) := by decide +kernel
theorem dX9_cures_42 : decode cX9_cures 42 = .ok (.ireturn, 1) := by decide +kernel
theorem dX9_cures_43 : decode cX9_cures 43 = .ok (.iconst 0, 1) := by decide +kernel
theorem dX9_cures_44 : decode cX9_cures 44 = .ok (.istore_n 3, 1) := by decide +kernel
theorem dX9_cures_45 : decode cX9_cures 45 = .ok (.iload_n 3, 1) := by decide +kernel
theorem dX9_cures_46 : decode cX9_cures 46 = .ok (.aload_n 0, 1) := by decide +kernel
theorem dX9_cures_47 : decode cX9_cures 47 = .ok (.getfield 72, 3) := by decide +kernel
theorem dX9_cures_50 : decode cX9_cures 50 = .ok (.iconst 0, 1) := by decide +kernel
theorem dX9_cures_51 : decode cX9_cures 51 = .ok (.iaload, 1) := by decide +kernel
theorem dX9_cures_52 : decode cX9_cures 52 = .ok (.if_icmp .ge 36, 3) := by decide +kernel
theorem dX9_cures_55 : decode cX9_cures 55 = .ok (.aload_n 0, 1) := by decide +kernel
theorem dX9_cures_56 : decode cX9_cures 56 = .ok (.iconst 2, 1) := by decide +kernel
theorem dX9_cures_57 : decode cX9_cures 57 = .ok (.aload_n 0, 1) := by decide +kernel
theorem dX9_cures_58 : decode cX9_cures 58 = .ok (.getfield 69, 3) := by decide +kernel
theorem dX9_cures_6 : decode cX9_cures 6 = .ok (.aload_n 0, 1) := by decide +kernel
theorem dX9_cures_61 : decode cX9_cures 61 = .ok (.sipush 6000, 3) := by decide +kernel
theorem dX9_cures_64 : decode cX9_cures 64 = .ok (.iload_n 3, 1) := by decide +kernel
theorem dX9_cures_65 : decode cX9_cures 65 = .ok (.iadd, 1) := by decide +kernel
theorem dX9_cures_66 : decode cX9_cures 66 = .ok (.iaload, 1) := by decide +kernel
theorem dX9_cures_67 : decode cX9_cures 67 = .ok (.iconst 0, 1) := by decide +kernel
theorem dX9_cures_68 : decode cX9_cures 68 = .ok (.aload_n 0, 1) := by decide +kernel
theorem dX9_cures_69 : decode cX9_cures 69 = .ok (.getfield 69, 3) := by decide +kernel
theorem dX9_cures_7 : decode cX9_cures 7 = .ok (.iconst 2, 1) := by decide +kernel
theorem dX9_cures_72 : decode cX9_cures 72 = .ok (.iload_n 3, 1) := by decide +kernel
theorem dX9_cures_73 : decode cX9_cures 73 = .ok (.iaload, 1) := by decide +kernel
theorem dX9_cures_74 : decode cX9_cures 74 = .ok (.invokevirtual 327, 3) := by decide +kernel
theorem dX9_cures_77 : decode cX9_cures 77 = .ok (.ifCond .eq 5, 3) := by decide +kernel
theorem dX9_cures_8 : decode cX9_cures 8 = .ok (.iconst 2, 1) := by decide +kernel
theorem dX9_cures_80 : decode cX9_cures 80 = .ok (.iconst 0, 1) := by decide +kernel
theorem dX9_cures_81 : decode cX9_cures 81 = .ok (.ireturn, 1) := by decide +kernel
theorem dX9_cures_82 : decode cX9_cures 82 = .ok (.iinc 3 1, 3) := by decide +kernel
theorem dX9_cures_85 : decode cX9_cures 85 = .ok (.goto (-40), 3) := by decide +kernel
theorem dX9_cures_88 : decode cX9_cures 88 = .ok (.iconst 1, 1) := by decide +kernel
theorem dX9_cures_89 : decode cX9_cures 89 = .ok (.ireturn, 1) := by decide +kernel
theorem dX9_cures_9 : decode cX9_cures 9 = .ok (.iconst 1, 1) := by decide +kernel
theorem gSm_r {kd : Nat → Int32} {C Mn : Nat → Nat} : gSm kd kd C C Mn Mn := ⟨rfl, fun _ _ => rfl, fun _ _ => rfl⟩
theorem gSm_t {kd kd1 kd2 : Nat → Int32} {C C1 C2 Mn Mn1 Mn2 : Nat → Nat} (h : gSm kd kd1 C C1 Mn Mn1) (h2 : gSm kd1 kd2 C1 C2 Mn1 Mn2) : gSm kd kd2 C C2 Mn Mn2 := ⟨h2.1.trans h.1, fun j hj => (h2.2.1 j hj).trans (h.2.1 j hj), fun j hj => (h2.2.2 j hj).trans (h.2.2 j hj)⟩
def gF3 (x : Int32) : Prop := x = (-1) ∨ ∃ q, q ≤ 2 ∧ x = nI q