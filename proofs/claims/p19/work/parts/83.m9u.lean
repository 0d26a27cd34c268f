theorem dX9_stepOf_0 : decode cX9_stepOf 0 = .ok (.iconst 0, 1) := by decide +kernel
theorem dX9_stepOf_1 : decode cX9_stepOf 1 = .ok (.istore 4, 2) := by decide +kernel
theorem dX9_stepOf_10 : decode cX9_stepOf 10 = .ok (.sipush 3000, 3) := by decide +kernel
theorem dX9_stepOf_100 : decode cX9_stepOf 100 = .ok (.iload 5, 2) := by decide +kernel
theorem dX9_stepOf_102 : decode cX9_stepOf 102 = .ok (.iadd, 1) := by decide +kernel
theorem dX9_stepOf_103 : decode cX9_stepOf 103 = .ok (.iaload, 1) := by decide +kernel
theorem dX9_stepOf_104 : decode cX9_stepOf 104 = .ok (.ireturn, 1) := by decide +kernel
theorem dX9_stepOf_13 : decode cX9_stepOf 13 = .ok (.iload_n 1, 1) := by decide +kernel
theorem dX9_stepOf_14 : decode cX9_stepOf 14 = .ok (.imul, 1) := by decide +kernel
theorem dX9_stepOf_15 : decode cX9_stepOf 15 = .ok (.iload 5, 2) := by decide +kernel
theorem dX9_stepOf_17 : decode cX9_stepOf 17 = .ok (.iadd, 1) := by decide +kernel
theorem dX9_stepOf_18 : decode cX9_stepOf 18 = .ok (.iaload, 1) := by decide +kernel
theorem dX9_stepOf_19 : decode cX9_stepOf 19 = .ok (.ifCond .lt 24, 3) := by decide +kernel
theorem dX9_stepOf_22 : decode cX9_stepOf 22 = .ok (.iinc 4 1, 3) := by decide +kernel
theorem dX9_stepOf_25 : decode cX9_stepOf 25 = .ok (.aload_n 0, 1) := by decide +kernel
theorem dX9_stepOf_26 : decode cX9_stepOf 26 = .ok (.getfield 47, 3) := by decide +kernel
theorem dX9_stepOf_29 : decode cX9_stepOf 29 = .ok (.sipush 3000, 3) := by decide +kernel
theorem dX9_stepOf_3 : decode cX9_stepOf 3 = .ok (.iload_n 2, 1) := by decide +kernel
theorem dX9_stepOf_32 : decode cX9_stepOf 32 = .ok (.iload_n 1, 1) := by decide +kernel
theorem dX9_stepOf_33 : decode cX9_stepOf 33 = .ok (.imul, 1) := by decide +kernel
theorem dX9_stepOf_34 : decode cX9_stepOf 34 = .ok (.iload 5, 2) := by decide +kernel
theorem dX9_stepOf_36 : decode cX9_stepOf 36 = .ok (.iadd, 1) := by decide +kernel
theorem dX9_stepOf_37 : decode cX9_stepOf 37 = .ok (.iaload, 1) := by decide +kernel
theorem dX9_stepOf_38 : decode cX9_stepOf 38 = .ok (.istore 5, 2) := by decide +kernel
theorem dX9_stepOf_4 : decode cX9_stepOf 4 = .ok (.istore 5, 2) := by decide +kernel
theorem dX9_stepOf_40 : decode cX9_stepOf 40 = .ok (.goto (-34), 3) := by decide +kernel
theorem dX9_stepOf_43 : decode cX9_stepOf 43 = .ok (.iload_n 3, 1) := by decide +kernel
theorem dX9_stepOf_44 : decode cX9_stepOf 44 = .ok (.ifCond .lt 9, 3) := by decide +kernel
theorem dX9_stepOf_47 : decode cX9_stepOf 47 = .ok (.iload_n 3, 1) := by decide +kernel
theorem dX9_stepOf_48 : decode cX9_stepOf 48 = .ok (.iload 4, 2) := by decide +kernel
theorem dX9_stepOf_50 : decode cX9_stepOf 50 = .ok (.if_icmp .lt 5, 3) := by decide +kernel
theorem dX9_stepOf_53 : decode cX9_stepOf 53 = .ok (.iconst (-1), 1) := by decide +kernel
theorem dX9_stepOf_54 : decode cX9_stepOf 54 = .ok (.ireturn, 1) := by decide +kernel
theorem dX9_stepOf_55 : decode cX9_stepOf 55 = .ok (.iload_n 2, 1) := by decide +kernel
theorem dX9_stepOf_56 : decode cX9_stepOf 56 = .ok (.istore 5, 2) := by decide +kernel
theorem dX9_stepOf_58 : decode cX9_stepOf 58 = .ok (.iload 4, 2) := by decide +kernel
theorem dX9_stepOf_6 : decode cX9_stepOf 6 = .ok (.aload_n 0, 1) := by decide +kernel
theorem dX9_stepOf_60 : decode cX9_stepOf 60 = .ok (.iconst 1, 1) := by decide +kernel
theorem dX9_stepOf_61 : decode cX9_stepOf 61 = .ok (.isub, 1) := by decide +kernel
theorem dX9_stepOf_62 : decode cX9_stepOf 62 = .ok (.istore 6, 2) := by decide +kernel
theorem dX9_stepOf_64 : decode cX9_stepOf 64 = .ok (.iload 6, 2) := by decide +kernel
theorem dX9_stepOf_66 : decode cX9_stepOf 66 = .ok (.iload_n 3, 1) := by decide +kernel
theorem dX9_stepOf_67 : decode cX9_stepOf 67 = .ok (.if_icmp .le 24, 3) := by decide +kernel
theorem dX9_stepOf_7 : decode cX9_stepOf 7 = .ok (.getfield 47, 3) := by decide +kernel
theorem dX9_stepOf_70 : decode cX9_stepOf 70 = .ok (.aload_n 0, 1) := by decide +kernel
theorem dX9_stepOf_71 : decode cX9_stepOf 71 = .ok (.getfield 47, 3) := by decide +kernel
theorem dX9_stepOf_74 : decode cX9_stepOf 74 = .ok (.sipush 3000, 3) := by decide +kernel
theorem dX9_stepOf_77 : decode cX9_stepOf 77 = .ok (.iload_n 1, 1) := by decide +kernel
theorem dX9_stepOf_78 : decode cX9_stepOf 78 = .ok (.imul, 1) := by decide +kernel
theorem dX9_stepOf_79 : decode cX9_stepOf 79 = .ok (.iload 5, 2) := by decide +kernel
theorem dX9_stepOf_81 : decode cX9_stepOf 81 = .ok (.iadd, 1) := by decide +kernel
theorem dX9_stepOf_82 : decode cX9_stepOf 82 = .ok (.iaload, 1) := by decide +kernel
theorem dX9_stepOf_83 : decode cX9_stepOf 83 = .ok (.istore 5, 2) := by decide +kernel
theorem dX9_stepOf_85 : decode cX9_stepOf 85 = .ok (.iinc 6 (-1), 3) := by decide +kernel
theorem dX9_stepOf_88 : decode cX9_stepOf 88 = .ok (.goto (-24), 3) := by decide +kernel
theorem dX9_stepOf_91 : decode cX9_stepOf 91 = .ok (.aload_n 0, 1) := by decide +kernel
theorem dX9_stepOf_92 : decode cX9_stepOf 92 = .ok (.getfield 50, 3) := by decide +kernel
theorem dX9_stepOf_95 : decode cX9_stepOf 95 = .ok (.sipush 3000, 3) := by decide +kernel
theorem dX9_stepOf_98 : decode cX9_stepOf 98 = .ok (.iload_n 1, 1) := by decide +kernel
theorem dX9_stepOf_99 : decode cX9_stepOf 99 = .ok (.imul, 1) := by decide +kernel
/-- h steps back can be made from k -/
def gHi (fr : Nat → Int32) (b : Nat) : Nat → Nat → Prop
  | _, 0 => True
  | k, h + 1 => ∃ q, q < k ∧ fr (b + k) = nI q ∧ gHi fr b q h
def gFr (fr : Nat → Int32) (b sz : Nat) (Dp : Nat → Nat) : Prop := ∀ m, m < sz → fr (b + m) = (-1) ∨ ∃ q, q < m ∧ fr (b + m) = nI q ∧ Dp q + 1 ≤ Dp m