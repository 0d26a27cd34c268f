theorem dX5_isRace_0 : decode cX5_isRace 0 = .ok (.iconst 0, 1) := by decide +kernel
theorem dX5_isRace_1 : decode cX5_isRace 1 = .ok (.istore_n 3, 1) := by decide +kernel
theorem dX5_isRace_10 : decode cX5_isRace 10 = .ok (.aload_n 1, 1) := by decide +kernel
theorem dX5_isRace_100 : decode cX5_isRace 100 = .ok (.iconst 0, 1) := by decide +kernel
theorem dX5_isRace_101 : decode cX5_isRace 101 = .ok (.ireturn, 1) := by decide +kernel
theorem dX5_isRace_11 : decode cX5_isRace 11 = .ok (.aload_n 2, 1) := by decide +kernel
theorem dX5_isRace_12 : decode cX5_isRace 12 = .ok (.iload_n 3, 1) := by decide +kernel
theorem dX5_isRace_13 : decode cX5_isRace 13 = .ok (.invokestatic 63, 3) := by decide +kernel
theorem dX5_isRace_16 : decode cX5_isRace 16 = .ok (.istore 4, 2) := by decide +kernel
theorem dX5_isRace_18 : decode cX5_isRace 18 = .ok (.iload 4, 2) := by decide +kernel
theorem dX5_isRace_2 : decode cX5_isRace 2 = .ok (.iload_n 3, 1) := by decide +kernel
theorem dX5_isRace_20 : decode cX5_isRace 20 = .ok (.iconst (-1), 1) := by decide +kernel
theorem dX5_isRace_21 : decode cX5_isRace 21 = .ok (.if_icmp .eq 73, 3) := by decide +kernel
theorem dX5_isRace_24 : decode cX5_isRace 24 = .ok (.aload_n 2, 1) := by decide +kernel
theorem dX5_isRace_25 : decode cX5_isRace 25 = .ok (.iload_n 3, 1) := by decide +kernel
theorem dX5_isRace_26 : decode cX5_isRace 26 = .ok (.invokevirtual 67, 3) := by decide +kernel
theorem dX5_isRace_29 : decode cX5_isRace 29 = .ok (.iconst 1, 1) := by decide +kernel
theorem dX5_isRace_3 : decode cX5_isRace 3 = .ok (.aload_n 1, 1) := by decide +kernel
theorem dX5_isRace_30 : decode cX5_isRace 30 = .ok (.iload 4, 2) := by decide +kernel
theorem dX5_isRace_32 : decode cX5_isRace 32 = .ok (.ishl, 1) := by decide +kernel
theorem dX5_isRace_33 : decode cX5_isRace 33 = .ok (.iconst (-1), 1) := by decide +kernel
theorem dX5_isRace_34 : decode cX5_isRace 34 = .ok (.ixor, 1) := by decide +kernel
theorem dX5_isRace_35 : decode cX5_isRace 35 = .ok (.iand, 1) := by decide +kernel
theorem dX5_isRace_36 : decode cX5_isRace 36 = .ok (.ifCond .eq 58, 3) := by decide +kernel
theorem dX5_isRace_39 : decode cX5_isRace 39 = .ok (.iconst 0, 1) := by decide +kernel
theorem dX5_isRace_4 : decode cX5_isRace 4 = .ok (.getfield 58, 3) := by decide +kernel
theorem dX5_isRace_40 : decode cX5_isRace 40 = .ok (.istore 5, 2) := by decide +kernel
theorem dX5_isRace_42 : decode cX5_isRace 42 = .ok (.iload 5, 2) := by decide +kernel
theorem dX5_isRace_44 : decode cX5_isRace 44 = .ok (.aload_n 1, 1) := by decide +kernel
theorem dX5_isRace_45 : decode cX5_isRace 45 = .ok (.getfield 58, 3) := by decide +kernel
theorem dX5_isRace_48 : decode cX5_isRace 48 = .ok (.if_icmp .ge 46, 3) := by decide +kernel
theorem dX5_isRace_51 : decode cX5_isRace 51 = .ok (.iload 5, 2) := by decide +kernel
theorem dX5_isRace_53 : decode cX5_isRace 53 = .ok (.iload_n 3, 1) := by decide +kernel
theorem dX5_isRace_54 : decode cX5_isRace 54 = .ok (.if_icmp .eq 34, 3) := by decide +kernel
theorem dX5_isRace_57 : decode cX5_isRace 57 = .ok (.aload_n 1, 1) := by decide +kernel
theorem dX5_isRace_58 : decode cX5_isRace 58 = .ok (.aload_n 2, 1) := by decide +kernel
theorem dX5_isRace_59 : decode cX5_isRace 59 = .ok (.iload 5, 2) := by decide +kernel
theorem dX5_isRace_61 : decode cX5_isRace 61 = .ok (.iload 4, 2) := by decide +kernel
theorem dX5_isRace_63 : decode cX5_isRace 63 = .ok (.invokestatic 72, 3) := by decide +kernel
theorem dX5_isRace_66 : decode cX5_isRace 66 = .ok (.ifCond .eq 22, 3) := by decide +kernel
theorem dX5_isRace_69 : decode cX5_isRace 69 = .ok (.aload_n 0, 1) := by decide +kernel
theorem dX5_isRace_7 : decode cX5_isRace 7 = .ok (.if_icmp .ge 93, 3) := by decide +kernel
theorem dX5_isRace_70 : decode cX5_isRace 70 = .ok (.iload_n 3, 1) := by decide +kernel
theorem dX5_isRace_71 : decode cX5_isRace 71 = .ok (.putfield 76, 3) := by decide +kernel
theorem dX5_isRace_74 : decode cX5_isRace 74 = .ok (.aload_n 0, 1) := by decide +kernel
theorem dX5_isRace_75 : decode cX5_isRace 75 = .ok (.iload 5, 2) := by decide +kernel
theorem dX5_isRace_77 : decode cX5_isRace 77 = .ok (.putfield 79, 3) := by decide +kernel
theorem dX5_isRace_80 : decode cX5_isRace 80 = .ok (.aload_n 0, 1) := by decide +kernel
theorem dX5_isRace_81 : decode cX5_isRace 81 = .ok (.iload 4, 2) := by decide +kernel
theorem dX5_isRace_83 : decode cX5_isRace 83 = .ok (.putfield 82, 3) := by decide +kernel
theorem dX5_isRace_86 : decode cX5_isRace 86 = .ok (.iconst 1, 1) := by decide +kernel
theorem dX5_isRace_87 : decode cX5_isRace 87 = .ok (.ireturn, 1) := by decide +kernel
theorem dX5_isRace_88 : decode cX5_isRace 88 = .ok (.iinc 5 1, 3) := by decide +kernel
theorem dX5_isRace_91 : decode cX5_isRace 91 = .ok (.goto (-49), 3) := by decide +kernel
theorem dX5_isRace_94 : decode cX5_isRace 94 = .ok (.iinc 3 1, 3) := by decide +kernel
theorem dX5_isRace_97 : decode cX5_isRace 97 = .ok (.goto (-95), 3) := by decide +kernel
theorem dX5_loadedCell_0 : decode cX5_loadedCell 0 = .ok (.aload_n 1, 1) := by decide +kernel
theorem dX5_loadedCell_1 : decode cX5_loadedCell 1 = .ok (.iload_n 2, 1) := by decide +kernel
theorem dX5_loadedCell_11 : decode cX5_loadedCell 11 = .ok (.iload_n 2, 1) := by decide +kernel
theorem dX5_loadedCell_12 : decode cX5_loadedCell 12 = .ok (.iaload, 1) := by decide +kernel
theorem dX5_loadedCell_13 : decode cX5_loadedCell 13 = .ok (.if_icmp .ge 17, 3) := by decide +kernel
theorem dX5_loadedCell_16 : decode cX5_loadedCell 16 = .ok (.aload_n 0, 1) := by decide +kernel
theorem dX5_loadedCell_17 : decode cX5_loadedCell 17 = .ok (.iload_n 2, 1) := by decide +kernel
theorem dX5_loadedCell_18 : decode cX5_loadedCell 18 = .ok (.iload_n 3, 1) := by decide +kernel
theorem dX5_loadedCell_19 : decode cX5_loadedCell 19 = .ok (.iconst 0, 1) := by decide +kernel
theorem dX5_loadedCell_2 : decode cX5_loadedCell 2 = .ok (.invokevirtual 85, 3) := by decide +kernel
theorem dX5_loadedCell_20 : decode cX5_loadedCell 20 = .ok (.invokevirtual 91, 3) := by decide +kernel
theorem dX5_loadedCell_23 : decode cX5_loadedCell 23 = .ok (.ifCond .ne 7, 3) := by decide +kernel
theorem dX5_loadedCell_26 : decode cX5_loadedCell 26 = .ok (.iconst 1, 1) := by decide +kernel
theorem dX5_loadedCell_27 : decode cX5_loadedCell 27 = .ok (.goto 4, 3) := by decide +kernel
theorem dX5_loadedCell_30 : decode cX5_loadedCell 30 = .ok (.iconst 0, 1) := by decide +kernel
theorem dX5_loadedCell_31 : decode cX5_loadedCell 31 = .ok (.istore 4, 2) := by decide +kernel
theorem dX5_loadedCell_33 : decode cX5_loadedCell 33 = .ok (.iload 4, 2) := by decide +kernel
theorem dX5_loadedCell_35 : decode cX5_loadedCell 35 = .ok (.ifCond .eq 13, 3) := by decide +kernel
theorem dX5_loadedCell_38 : decode cX5_loadedCell 38 = .ok (.aload_n 0, 1) := by decide +kernel
theorem dX5_loadedCell_39 : decode cX5_loadedCell 39 = .ok (.iload_n 2, 1) := by decide +kernel
theorem dX5_loadedCell_40 : decode cX5_loadedCell 40 = .ok (.iload_n 3, 1) := by decide +kernel
theorem dX5_loadedCell_41 : decode cX5_loadedCell 41 = .ok (.iconst 1, 1) := by decide +kernel
theorem dX5_loadedCell_42 : decode cX5_loadedCell 42 = .ok (.invokevirtual 91, 3) := by decide +kernel
theorem dX5_loadedCell_45 : decode cX5_loadedCell 45 = .ok (.goto 4, 3) := by decide +kernel
theorem dX5_loadedCell_48 : decode cX5_loadedCell 48 = .ok (.iconst (-1), 1) := by decide +kernel
theorem dX5_loadedCell_49 : decode cX5_loadedCell 49 = .ok (.ireturn, 1) := by decide +kernel
theorem dX5_loadedCell_5 : decode cX5_loadedCell 5 = .ok (.istore_n 3, 1) := by decide +kernel
theorem dX5_loadedCell_6 : decode cX5_loadedCell 6 = .ok (.iload_n 3, 1) := by decide +kernel
theorem dX5_loadedCell_7 : decode cX5_loadedCell 7 = .ok (.aload_n 0, 1) := by decide +kernel
theorem dX5_loadedCell_8 : decode cX5_loadedCell 8 = .ok (.getfield 88, 3) := by decide +kernel
theorem dX5_tell_0 : decode cX5_tell 0 = .ok (.aload_n 0, 1) := by decide +kernel
theorem dX5_tell_1 : decode cX5_tell 1 = .ok (.getfield 19, 3) := by decide +kernel
theorem dX5_tell_12 : decode cX5_tell 12 = .ok (.iconst (-1), 1) := by decide +kernel
theorem dX5_tell_13 : decode cX5_tell 13 = .ok (.ireturn, 1) := by decide +kernel
theorem dX5_tell_14 : decode cX5_tell 14 = .ok (.iload_n 1, 1) := by decide +kernel
theorem dX5_tell_15 : decode cX5_tell 15 = .ok (.tableswitch 40 0 2 #[25, 30, 35], 25) := by decide +kernel
theorem dX5_tell_4 : decode cX5_tell 4 = .ok (.iconst 1, 1) := by decide +kernel
theorem dX5_tell_40 : decode cX5_tell 40 = .ok (.aload_n 0, 1) := by decide +kernel
theorem dX5_tell_41 : decode cX5_tell 41 = .ok (.getfield 76, 3) := by decide +kernel
theorem dX5_tell_44 : decode cX5_tell 44 = .ok (.ireturn, 1) := by decide +kernel
theorem dX5_tell_45 : decode cX5_tell 45 = .ok (.aload_n 0, 1) := by decide +kernel
theorem dX5_tell_46 : decode cX5_tell 46 = .ok (.getfield 79, 3) := by decide +kernel
theorem dX5_tell_49 : decode cX5_tell 49 = .ok (.ireturn, 1) := by decide +kernel
theorem dX5_tell_5 : decode cX5_tell 5 = .ok (.if_icmp .ne 7, 3) := by decide +kernel
theorem dX5_tell_50 : decode cX5_tell 50 = .ok (.aload_n 0, 1) := by decide +kernel
theorem dX5_tell_51 : decode cX5_tell 51 = .ok (.getfield 82, 3) := by decide +kernel
theorem dX5_tell_54 : decode cX5_tell 54 = .ok (.ireturn, 1) := by decide +kernel
theorem dX5_tell_55 : decode cX5_tell 55 = .ok (.iload_n 1, 1) := by decide +kernel
theorem dX5_tell_56 : decode cX5_tell 56 = .ok (.iconst 3, 1) := by decide +kernel
theorem dX5_tell_57 : decode cX5_tell 57 = .ok (.isub, 1) := by decide +kernel
theorem dX5_tell_58 : decode cX5_tell 58 = .ok (.istore_n 2, 1) := by decide +kernel
theorem dX5_tell_59 : decode cX5_tell 59 = .ok (.iload_n 2, 1) := by decide +kernel
theorem dX5_tell_60 : decode cX5_tell 60 = .ok (.aload_n 0, 1) := by decide +kernel
theorem dX5_tell_61 : decode cX5_tell 61 = .ok (.getfield 48, 3) := by decide +kernel
theorem dX5_tell_64 : decode cX5_tell 64 = .ok (.if_icmp .ge 12, 3) := by decide +kernel
theorem dX5_tell_67 : decode cX5_tell 67 = .ok (.aload_n 0, 1) := by decide +kernel
theorem dX5_tell_68 : decode cX5_tell 68 = .ok (.getfield 9, 3) := by decide +kernel
theorem dX5_tell_71 : decode cX5_tell 71 = .ok (.iload_n 2, 1) := by decide +kernel
theorem dX5_tell_72 : decode cX5_tell 72 = .ok (.iaload, 1) := by decide +kernel
theorem dX5_tell_73 : decode cX5_tell 73 = .ok (.goto 4, 3) := by decide +kernel
theorem dX5_tell_76 : decode cX5_tell 76 = .ok (.iconst (-1), 1) := by decide +kernel
theorem dX5_tell_77 : decode cX5_tell 77 = .ok (.ireturn, 1) := by decide +kernel
theorem dX5_tell_8 : decode cX5_tell 8 = .ok (.iload_n 1, 1) := by decide +kernel
theorem dX5_tell_9 : decode cX5_tell 9 = .ok (.ifCond .ge 5, 3) := by decide +kernel
theorem dX5_writes_0 : decode cX5_writes 0 = .ok (.aload_n 1, 1) := by decide +kernel
theorem dX5_writes_1 : decode cX5_writes 1 = .ok (.iload_n 2, 1) := by decide +kernel
theorem dX5_writes_10 : decode cX5_writes 10 = .ok (.getfield 88, 3) := by decide +kernel
theorem dX5_writes_13 : decode cX5_writes 13 = .ok (.iload_n 2, 1) := by decide +kernel
theorem dX5_writes_14 : decode cX5_writes 14 = .ok (.iaload, 1) := by decide +kernel
theorem dX5_writes_15 : decode cX5_writes 15 = .ok (.if_icmp .ge 15, 3) := by decide +kernel
theorem dX5_writes_18 : decode cX5_writes 18 = .ok (.aload_n 0, 1) := by decide +kernel
theorem dX5_writes_19 : decode cX5_writes 19 = .ok (.iload_n 2, 1) := by decide +kernel
theorem dX5_writes_2 : decode cX5_writes 2 = .ok (.invokevirtual 85, 3) := by decide +kernel
theorem dX5_writes_20 : decode cX5_writes 20 = .ok (.iload 4, 2) := by decide +kernel
theorem dX5_writes_22 : decode cX5_writes 22 = .ok (.iconst 1, 1) := by decide +kernel
theorem dX5_writes_23 : decode cX5_writes 23 = .ok (.invokevirtual 91, 3) := by decide +kernel
theorem dX5_writes_26 : decode cX5_writes 26 = .ok (.iload_n 3, 1) := by decide +kernel
theorem dX5_writes_27 : decode cX5_writes 27 = .ok (.if_icmp .eq 5, 3) := by decide +kernel
theorem dX5_writes_30 : decode cX5_writes 30 = .ok (.iconst 0, 1) := by decide +kernel
theorem dX5_writes_31 : decode cX5_writes 31 = .ok (.ireturn, 1) := by decide +kernel
theorem dX5_writes_32 : decode cX5_writes 32 = .ok (.aload_n 0, 1) := by decide +kernel
theorem dX5_writes_33 : decode cX5_writes 33 = .ok (.iload_n 2, 1) := by decide +kernel
theorem dX5_writes_34 : decode cX5_writes 34 = .ok (.iload 4, 2) := by decide +kernel
theorem dX5_writes_36 : decode cX5_writes 36 = .ok (.iconst 0, 1) := by decide +kernel
theorem dX5_writes_37 : decode cX5_writes 37 = .ok (.invokevirtual 91, 3) := by decide +kernel
theorem dX5_writes_40 : decode cX5_writes 40 = .ok (.istore 5, 2) := by decide +kernel
theorem dX5_writes_42 : decode cX5_writes 42 = .ok (.iload 5, 2) := by decide +kernel
theorem dX5_writes_44 : decode cX5_writes 44 = .ok (.iconst 1, 1) := by decide +kernel
theorem dX5_writes_45 : decode cX5_writes 45 = .ok (.if_icmp .eq 11, 3) := by decide +kernel
theorem dX5_writes_48 : decode cX5_writes 48 = .ok (.iload 5, 2) := by decide +kernel
theorem dX5_writes_5 : decode cX5_writes 5 = .ok (.istore 4, 2) := by decide +kernel
theorem dX5_writes_50 : decode cX5_writes 50 = .ok (.invokestatic 95, 3) := by decide +kernel
theorem dX5_writes_53 : decode cX5_writes 53 = .ok (.ifCond .eq 7, 3) := by decide +kernel
theorem dX5_writes_56 : decode cX5_writes 56 = .ok (.iconst 1, 1) := by decide +kernel
theorem dX5_writes_57 : decode cX5_writes 57 = .ok (.goto 4, 3) := by decide +kernel
theorem dX5_writes_60 : decode cX5_writes 60 = .ok (.iconst 0, 1) := by decide +kernel
theorem dX5_writes_61 : decode cX5_writes 61 = .ok (.ireturn, 1) := by decide +kernel
theorem dX5_writes_7 : decode cX5_writes 7 = .ok (.iload 4, 2) := by decide +kernel
theorem dX5_writes_9 : decode cX5_writes 9 = .ok (.aload_n 0, 1) := by decide +kernel
theorem gW_c_nextOf : wsP_c_nextOf.all goodWord = true := by decide +kernel