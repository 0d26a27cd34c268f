theorem dX8_ins_0 : decode cX8_ins 0 = .ok (.aload_n 0, 1) := by decide +kernel
theorem dX8_ins_1 : decode cX8_ins 1 = .ok (.iload_n 1, 1) := by decide +kernel
theorem dX8_ins_12 : decode cX8_ins 12 = .ok (.iload_n 2, 1) := by decide +kernel
theorem dX8_ins_13 : decode cX8_ins 13 = .ok (.aload_n 0, 1) := by decide +kernel
theorem dX8_ins_14 : decode cX8_ins 14 = .ok (.getfield 27, 3) := by decide +kernel
theorem dX8_ins_17 : decode cX8_ins 17 = .ok (.getfield 100, 3) := by decide +kernel
theorem dX8_ins_2 : decode cX8_ins 2 = .ok (.invokevirtual 96, 3) := by decide +kernel
theorem dX8_ins_20 : decode cX8_ins 20 = .ok (.iload_n 1, 1) := by decide +kernel
theorem dX8_ins_21 : decode cX8_ins 21 = .ok (.iaload, 1) := by decide +kernel
theorem dX8_ins_22 : decode cX8_ins 22 = .ok (.if_icmp .ge 13, 3) := by decide +kernel
theorem dX8_ins_25 : decode cX8_ins 25 = .ok (.iload_n 3, 1) := by decide +kernel
theorem dX8_ins_26 : decode cX8_ins 26 = .ok (.ifCond .lt 9, 3) := by decide +kernel
theorem dX8_ins_29 : decode cX8_ins 29 = .ok (.iload_n 3, 1) := by decide +kernel
theorem dX8_ins_30 : decode cX8_ins 30 = .ok (.bipush 8, 2) := by decide +kernel
theorem dX8_ins_32 : decode cX8_ins 32 = .ok (.if_icmp .lt 5, 3) := by decide +kernel
theorem dX8_ins_35 : decode cX8_ins 35 = .ok (.iconst (-1), 1) := by decide +kernel
theorem dX8_ins_36 : decode cX8_ins 36 = .ok (.ireturn, 1) := by decide +kernel
theorem dX8_ins_37 : decode cX8_ins 37 = .ok (.aload_n 0, 1) := by decide +kernel
theorem dX8_ins_38 : decode cX8_ins 38 = .ok (.getfield 27, 3) := by decide +kernel
theorem dX8_ins_41 : decode cX8_ins 41 = .ok (.iload_n 1, 1) := by decide +kernel
theorem dX8_ins_42 : decode cX8_ins 42 = .ok (.iload_n 2, 1) := by decide +kernel
theorem dX8_ins_43 : decode cX8_ins 43 = .ok (.iload_n 3, 1) := by decide +kernel
theorem dX8_ins_44 : decode cX8_ins 44 = .ok (.invokevirtual 104, 3) := by decide +kernel
theorem dX8_ins_47 : decode cX8_ins 47 = .ok (.ireturn, 1) := by decide +kernel
theorem dX8_ins_5 : decode cX8_ins 5 = .ok (.ifCond .eq 30, 3) := by decide +kernel
theorem dX8_ins_8 : decode cX8_ins 8 = .ok (.iload_n 2, 1) := by decide +kernel
theorem dX8_ins_9 : decode cX8_ins 9 = .ok (.ifCond .lt 26, 3) := by decide +kernel
theorem dX8_memory_0 : decode cX8_memory 0 = .ok (.aload_n 0, 1) := by decide +kernel
theorem dX8_memory_1 : decode cX8_memory 1 = .ok (.getfield 34, 3) := by decide +kernel
theorem dX8_memory_10 : decode cX8_memory 10 = .ok (.iload_n 1, 1) := by decide +kernel
theorem dX8_memory_11 : decode cX8_memory 11 = .ok (.ifCond .lt 8, 3) := by decide +kernel
theorem dX8_memory_14 : decode cX8_memory 14 = .ok (.iload_n 1, 1) := by decide +kernel
theorem dX8_memory_15 : decode cX8_memory 15 = .ok (.iconst 4, 1) := by decide +kernel
theorem dX8_memory_16 : decode cX8_memory 16 = .ok (.if_icmp .lt 5, 3) := by decide +kernel
theorem dX8_memory_19 : decode cX8_memory 19 = .ok (.iconst 0, 1) := by decide +kernel
theorem dX8_memory_20 : decode cX8_memory 20 = .ok (.ireturn, 1) := by decide +kernel
theorem dX8_memory_21 : decode cX8_memory 21 = .ok (.aload_n 0, 1) := by decide +kernel
theorem dX8_memory_22 : decode cX8_memory 22 = .ok (.getfield 34, 3) := by decide +kernel
theorem dX8_memory_25 : decode cX8_memory 25 = .ok (.getfield 126, 3) := by decide +kernel
theorem dX8_memory_28 : decode cX8_memory 28 = .ok (.getfield 130, 3) := by decide +kernel
theorem dX8_memory_31 : decode cX8_memory 31 = .ok (.bipush 9, 2) := by decide +kernel
theorem dX8_memory_33 : decode cX8_memory 33 = .ok (.iload_n 1, 1) := by decide +kernel
theorem dX8_memory_34 : decode cX8_memory 34 = .ok (.iadd, 1) := by decide +kernel
theorem dX8_memory_35 : decode cX8_memory 35 = .ok (.iaload, 1) := by decide +kernel
theorem dX8_memory_36 : decode cX8_memory 36 = .ok (.ireturn, 1) := by decide +kernel
theorem dX8_memory_4 : decode cX8_memory 4 = .ok (.getfield 86, 3) := by decide +kernel
theorem dX8_memory_7 : decode cX8_memory 7 = .ok (.ifCond .eq 12, 3) := by decide +kernel
theorem dX8_next_0 : decode cX8_next 0 = .ok (.aload_n 0, 1) := by decide +kernel
theorem dX8_next_1 : decode cX8_next 1 = .ok (.getfield 34, 3) := by decide +kernel
theorem dX8_next_10 : decode cX8_next 10 = .ok (.aload_n 0, 1) := by decide +kernel
theorem dX8_next_11 : decode cX8_next 11 = .ok (.iload_n 1, 1) := by decide +kernel
theorem dX8_next_12 : decode cX8_next 12 = .ok (.invokevirtual 96, 3) := by decide +kernel
theorem dX8_next_15 : decode cX8_next 15 = .ok (.ifCond .eq 17, 3) := by decide +kernel
theorem dX8_next_18 : decode cX8_next 18 = .ok (.aload_n 0, 1) := by decide +kernel
theorem dX8_next_19 : decode cX8_next 19 = .ok (.getfield 34, 3) := by decide +kernel
theorem dX8_next_22 : decode cX8_next 22 = .ok (.getfield 126, 3) := by decide +kernel
theorem dX8_next_25 : decode cX8_next 25 = .ok (.iload_n 1, 1) := by decide +kernel
theorem dX8_next_26 : decode cX8_next 26 = .ok (.invokevirtual 135, 3) := by decide +kernel
theorem dX8_next_29 : decode cX8_next 29 = .ok (.goto 4, 3) := by decide +kernel
theorem dX8_next_32 : decode cX8_next 32 = .ok (.iconst (-1), 1) := by decide +kernel
theorem dX8_next_33 : decode cX8_next 33 = .ok (.ireturn, 1) := by decide +kernel
theorem dX8_next_4 : decode cX8_next 4 = .ok (.getfield 86, 3) := by decide +kernel
theorem dX8_next_7 : decode cX8_next 7 = .ok (.ifCond .eq 25, 3) := by decide +kernel
theorem dX8_place_0 : decode cX8_place 0 = .ok (.aload_n 0, 1) := by decide +kernel
theorem dX8_place_1 : decode cX8_place 1 = .ok (.getfield 20, 3) := by decide +kernel
theorem dX8_place_4 : decode cX8_place 4 = .ok (.ireturn, 1) := by decide +kernel
theorem dX8_register_0 : decode cX8_register 0 = .ok (.aload_n 0, 1) := by decide +kernel
theorem dX8_register_1 : decode cX8_register 1 = .ok (.getfield 34, 3) := by decide +kernel
theorem dX8_register_10 : decode cX8_register 10 = .ok (.aload_n 0, 1) := by decide +kernel
theorem dX8_register_11 : decode cX8_register 11 = .ok (.iload_n 1, 1) := by decide +kernel
theorem dX8_register_12 : decode cX8_register 12 = .ok (.invokevirtual 96, 3) := by decide +kernel
theorem dX8_register_15 : decode cX8_register 15 = .ok (.ifCond .eq 12, 3) := by decide +kernel
theorem dX8_register_18 : decode cX8_register 18 = .ok (.iload_n 2, 1) := by decide +kernel
theorem dX8_register_19 : decode cX8_register 19 = .ok (.ifCond .lt 8, 3) := by decide +kernel
theorem dX8_register_22 : decode cX8_register 22 = .ok (.iload_n 2, 1) := by decide +kernel
theorem dX8_register_23 : decode cX8_register 23 = .ok (.iconst 3, 1) := by decide +kernel
theorem dX8_register_24 : decode cX8_register 24 = .ok (.if_icmp .lt 5, 3) := by decide +kernel
theorem dX8_register_27 : decode cX8_register 27 = .ok (.iconst 0, 1) := by decide +kernel
theorem dX8_register_28 : decode cX8_register 28 = .ok (.ireturn, 1) := by decide +kernel
theorem dX8_register_29 : decode cX8_register 29 = .ok (.aload_n 0, 1) := by decide +kernel
theorem dX8_register_30 : decode cX8_register 30 = .ok (.getfield 34, 3) := by decide +kernel
theorem dX8_register_33 : decode cX8_register 33 = .ok (.getfield 126, 3) := by decide +kernel
theorem dX8_register_36 : decode cX8_register 36 = .ok (.getfield 130, 3) := by decide +kernel
theorem dX8_register_39 : decode cX8_register 39 = .ok (.iload_n 1, 1) := by decide +kernel
theorem dX8_register_4 : decode cX8_register 4 = .ok (.getfield 86, 3) := by decide +kernel
theorem dX8_register_40 : decode cX8_register 40 = .ok (.iconst 3, 1) := by decide +kernel
theorem dX8_register_41 : decode cX8_register 41 = .ok (.imul, 1) := by decide +kernel
theorem dX8_register_42 : decode cX8_register 42 = .ok (.iload_n 2, 1) := by decide +kernel
theorem dX8_register_43 : decode cX8_register 43 = .ok (.iadd, 1) := by decide +kernel
theorem dX8_register_44 : decode cX8_register 44 = .ok (.iaload, 1) := by decide +kernel
theorem dX8_register_45 : decode cX8_register 45 = .ok (.ireturn, 1) := by decide +kernel
theorem dX8_register_7 : decode cX8_register 7 = .ok (.ifCond .eq 20, 3) := by decide +kernel