theorem dX9_integer_0 : decode cX9_integer 0 = .ok (.iconst 1, 1) := by decide +kernel
theorem dX9_integer_1 : decode cX9_integer 1 = .ok (.istore_n 1, 1) := by decide +kernel
theorem dX9_integer_10 : decode cX9_integer 10 = .ok (.aload_n 0, 1) := by decide +kernel
theorem dX9_integer_11 : decode cX9_integer 11 = .ok (.getfield 133, 3) := by decide +kernel
theorem dX9_integer_14 : decode cX9_integer 14 = .ok (.ldc2_w 178, 3) := by decide +kernel
theorem dX9_integer_17 : decode cX9_integer 17 = .ok (.lcmp, 1) := by decide +kernel
theorem dX9_integer_18 : decode cX9_integer 18 = .ok (.ifCond .ne 14, 3) := by decide +kernel
theorem dX9_integer_2 : decode cX9_integer 2 = .ok (.aload_n 0, 1) := by decide +kernel
theorem dX9_integer_21 : decode cX9_integer 21 = .ok (.iconst (-1), 1) := by decide +kernel
theorem dX9_integer_22 : decode cX9_integer 22 = .ok (.istore_n 1, 1) := by decide +kernel
theorem dX9_integer_23 : decode cX9_integer 23 = .ok (.aload_n 0, 1) := by decide +kernel
theorem dX9_integer_24 : decode cX9_integer 24 = .ok (.invokevirtual 164, 3) := by decide +kernel
theorem dX9_integer_27 : decode cX9_integer 27 = .ok (.ifCond .ne 5, 3) := by decide +kernel
theorem dX9_integer_3 : decode cX9_integer 3 = .ok (.getfield 137, 3) := by decide +kernel
theorem dX9_integer_30 : decode cX9_integer 30 = .ok (.iconst 0, 1) := by decide +kernel
theorem dX9_integer_31 : decode cX9_integer 31 = .ok (.ireturn, 1) := by decide +kernel
theorem dX9_integer_32 : decode cX9_integer 32 = .ok (.aload_n 0, 1) := by decide +kernel
theorem dX9_integer_33 : decode cX9_integer 33 = .ok (.invokevirtual 180, 3) := by decide +kernel
theorem dX9_integer_36 : decode cX9_integer 36 = .ok (.ifCond .ne 5, 3) := by decide +kernel
theorem dX9_integer_39 : decode cX9_integer 39 = .ok (.iconst 0, 1) := by decide +kernel
theorem dX9_integer_40 : decode cX9_integer 40 = .ok (.ireturn, 1) := by decide +kernel
theorem dX9_integer_41 : decode cX9_integer 41 = .ok (.aload_n 0, 1) := by decide +kernel
theorem dX9_integer_42 : decode cX9_integer 42 = .ok (.iload_n 1, 1) := by decide +kernel
theorem dX9_integer_43 : decode cX9_integer 43 = .ok (.aload_n 0, 1) := by decide +kernel
theorem dX9_integer_44 : decode cX9_integer 44 = .ok (.getfield 175, 3) := by decide +kernel
theorem dX9_integer_47 : decode cX9_integer 47 = .ok (.imul, 1) := by decide +kernel
theorem dX9_integer_48 : decode cX9_integer 48 = .ok (.putfield 175, 3) := by decide +kernel
theorem dX9_integer_51 : decode cX9_integer 51 = .ok (.iconst 1, 1) := by decide +kernel
theorem dX9_integer_52 : decode cX9_integer 52 = .ok (.ireturn, 1) := by decide +kernel
theorem dX9_integer_6 : decode cX9_integer 6 = .ok (.iconst 3, 1) := by decide +kernel
theorem dX9_integer_7 : decode cX9_integer 7 = .ok (.if_icmp .ne 25, 3) := by decide +kernel
theorem dX9_whole_0 : decode cX9_whole 0 = .ok (.aload_n 0, 1) := by decide +kernel
theorem dX9_whole_1 : decode cX9_whole 1 = .ok (.getfield 137, 3) := by decide +kernel
theorem dX9_whole_10 : decode cX9_whole 10 = .ok (.aload_n 0, 1) := by decide +kernel
theorem dX9_whole_11 : decode cX9_whole 11 = .ok (.getfield 130, 3) := by decide +kernel
theorem dX9_whole_14 : decode cX9_whole 14 = .ok (.invokevirtual 157, 3) := by decide +kernel
theorem dX9_whole_17 : decode cX9_whole 17 = .ok (.ireturn, 1) := by decide +kernel
theorem dX9_whole_18 : decode cX9_whole 18 = .ok (.aload_n 0, 1) := by decide +kernel
theorem dX9_whole_19 : decode cX9_whole 19 = .ok (.aload_n 0, 1) := by decide +kernel
theorem dX9_whole_20 : decode cX9_whole 20 = .ok (.getfield 130, 3) := by decide +kernel
theorem dX9_whole_23 : decode cX9_whole 23 = .ok (.putfield 172, 3) := by decide +kernel
theorem dX9_whole_26 : decode cX9_whole 26 = .ok (.aload_n 0, 1) := by decide +kernel
theorem dX9_whole_27 : decode cX9_whole 27 = .ok (.iconst 0, 1) := by decide +kernel
theorem dX9_whole_28 : decode cX9_whole 28 = .ok (.putfield 175, 3) := by decide +kernel
theorem dX9_whole_31 : decode cX9_whole 31 = .ok (.aload_n 0, 1) := by decide +kernel
theorem dX9_whole_32 : decode cX9_whole 32 = .ok (.getfield 130, 3) := by decide +kernel
theorem dX9_whole_35 : decode cX9_whole 35 = .ok (.istore_n 1, 1) := by decide +kernel
theorem dX9_whole_36 : decode cX9_whole 36 = .ok (.iload_n 1, 1) := by decide +kernel
theorem dX9_whole_37 : decode cX9_whole 37 = .ok (.aload_n 0, 1) := by decide +kernel
theorem dX9_whole_38 : decode cX9_whole 38 = .ok (.getfield 127, 3) := by decide +kernel
theorem dX9_whole_4 : decode cX9_whole 4 = .ok (.iconst 2, 1) := by decide +kernel
theorem dX9_whole_41 : decode cX9_whole 41 = .ok (.if_icmp .ge 30, 3) := by decide +kernel
theorem dX9_whole_44 : decode cX9_whole 44 = .ok (.aload_n 0, 1) := by decide +kernel
theorem dX9_whole_45 : decode cX9_whole 45 = .ok (.bipush 10, 2) := by decide +kernel
theorem dX9_whole_47 : decode cX9_whole 47 = .ok (.aload_n 0, 1) := by decide +kernel
theorem dX9_whole_48 : decode cX9_whole 48 = .ok (.getfield 175, 3) := by decide +kernel
theorem dX9_whole_5 : decode cX9_whole 5 = .ok (.if_icmp .eq 13, 3) := by decide +kernel
theorem dX9_whole_51 : decode cX9_whole 51 = .ok (.imul, 1) := by decide +kernel
theorem dX9_whole_52 : decode cX9_whole 52 = .ok (.aload_n 0, 1) := by decide +kernel
theorem dX9_whole_53 : decode cX9_whole 53 = .ok (.getfield 88, 3) := by decide +kernel
theorem dX9_whole_56 : decode cX9_whole 56 = .ok (.iload_n 1, 1) := by decide +kernel
theorem dX9_whole_57 : decode cX9_whole 57 = .ok (.baload, 1) := by decide +kernel
theorem dX9_whole_58 : decode cX9_whole 58 = .ok (.iadd, 1) := by decide +kernel
theorem dX9_whole_59 : decode cX9_whole 59 = .ok (.bipush 48, 2) := by decide +kernel
theorem dX9_whole_61 : decode cX9_whole 61 = .ok (.isub, 1) := by decide +kernel
theorem dX9_whole_62 : decode cX9_whole 62 = .ok (.putfield 175, 3) := by decide +kernel
theorem dX9_whole_65 : decode cX9_whole 65 = .ok (.iinc 1 1, 3) := by decide +kernel
theorem dX9_whole_68 : decode cX9_whole 68 = .ok (.goto (-32), 3) := by decide +kernel
theorem dX9_whole_71 : decode cX9_whole 71 = .ok (.aload_n 0, 1) := by decide +kernel
theorem dX9_whole_72 : decode cX9_whole 72 = .ok (.invokevirtual 164, 3) := by decide +kernel
theorem dX9_whole_75 : decode cX9_whole 75 = .ok (.ireturn, 1) := by decide +kernel
theorem dX9_whole_8 : decode cX9_whole 8 = .ok (.aload_n 0, 1) := by decide +kernel
theorem dX9_whole_9 : decode cX9_whole 9 = .ok (.iconst 1, 1) := by decide +kernel