theorem dX9_cell_0 : decode cX9_cell 0 = .ok (.aload_n 0, 1) := by decide +kernel
theorem dX9_cell_1 : decode cX9_cell 1 = .ok (.invokevirtual 180, 3) := by decide +kernel
theorem dX9_cell_10 : decode cX9_cell 10 = .ok (.getfield 175, 3) := by decide +kernel
theorem dX9_cell_13 : decode cX9_cell 13 = .ok (.iconst 3, 1) := by decide +kernel
theorem dX9_cell_14 : decode cX9_cell 14 = .ok (.if_icmp .le 11, 3) := by decide +kernel
theorem dX9_cell_17 : decode cX9_cell 17 = .ok (.aload_n 0, 1) := by decide +kernel
theorem dX9_cell_18 : decode cX9_cell 18 = .ok (.aload_n 0, 1) := by decide +kernel
theorem dX9_cell_19 : decode cX9_cell 19 = .ok (.getfield 172, 3) := by decide +kernel
theorem dX9_cell_22 : decode cX9_cell 22 = .ok (.invokevirtual 183, 3) := by decide +kernel
theorem dX9_cell_25 : decode cX9_cell 25 = .ok (.aload_n 0, 1) := by decide +kernel
theorem dX9_cell_26 : decode cX9_cell 26 = .ok (.getfield 19, 3) := by decide +kernel
theorem dX9_cell_29 : decode cX9_cell 29 = .ok (.aload_n 0, 1) := by decide +kernel
theorem dX9_cell_30 : decode cX9_cell 30 = .ok (.getfield 186, 3) := by decide +kernel
theorem dX9_cell_33 : decode cX9_cell 33 = .ok (.aload_n 0, 1) := by decide +kernel
theorem dX9_cell_34 : decode cX9_cell 34 = .ok (.getfield 175, 3) := by decide +kernel
theorem dX9_cell_37 : decode cX9_cell 37 = .ok (.iastore, 1) := by decide +kernel
theorem dX9_cell_38 : decode cX9_cell 38 = .ok (.iconst 1, 1) := by decide +kernel
theorem dX9_cell_39 : decode cX9_cell 39 = .ok (.ireturn, 1) := by decide +kernel
theorem dX9_cell_4 : decode cX9_cell 4 = .ok (.ifCond .ne 5, 3) := by decide +kernel
theorem dX9_cell_7 : decode cX9_cell 7 = .ok (.iconst 0, 1) := by decide +kernel
theorem dX9_cell_8 : decode cX9_cell 8 = .ok (.ireturn, 1) := by decide +kernel
theorem dX9_cell_9 : decode cX9_cell 9 = .ok (.aload_n 0, 1) := by decide +kernel
theorem dX9_isRegister_0 : decode cX9_isRegister 0 = .ok (.aload_n 0, 1) := by decide +kernel
theorem dX9_isRegister_1 : decode cX9_isRegister 1 = .ok (.getfield 137, 3) := by decide +kernel
theorem dX9_isRegister_12 : decode cX9_isRegister 12 = .ok (.ldc2_w 189, 3) := by decide +kernel
theorem dX9_isRegister_15 : decode cX9_isRegister 15 = .ok (.lcmp, 1) := by decide +kernel
theorem dX9_isRegister_16 : decode cX9_isRegister 16 = .ok (.ifCond .lt 18, 3) := by decide +kernel
theorem dX9_isRegister_19 : decode cX9_isRegister 19 = .ok (.aload_n 0, 1) := by decide +kernel
theorem dX9_isRegister_20 : decode cX9_isRegister 20 = .ok (.getfield 133, 3) := by decide +kernel
theorem dX9_isRegister_23 : decode cX9_isRegister 23 = .ok (.ldc2_w 191, 3) := by decide +kernel
theorem dX9_isRegister_26 : decode cX9_isRegister 26 = .ok (.lcmp, 1) := by decide +kernel
theorem dX9_isRegister_27 : decode cX9_isRegister 27 = .ok (.ifCond .gt 7, 3) := by decide +kernel
theorem dX9_isRegister_30 : decode cX9_isRegister 30 = .ok (.iconst 1, 1) := by decide +kernel
theorem dX9_isRegister_31 : decode cX9_isRegister 31 = .ok (.goto 4, 3) := by decide +kernel
theorem dX9_isRegister_34 : decode cX9_isRegister 34 = .ok (.iconst 0, 1) := by decide +kernel
theorem dX9_isRegister_35 : decode cX9_isRegister 35 = .ok (.ireturn, 1) := by decide +kernel
theorem dX9_isRegister_4 : decode cX9_isRegister 4 = .ok (.iconst 1, 1) := by decide +kernel
theorem dX9_isRegister_5 : decode cX9_isRegister 5 = .ok (.if_icmp .ne 29, 3) := by decide +kernel
theorem dX9_isRegister_8 : decode cX9_isRegister 8 = .ok (.aload_n 0, 1) := by decide +kernel
theorem dX9_isRegister_9 : decode cX9_isRegister 9 = .ok (.getfield 133, 3) := by decide +kernel
theorem dX9_register_0 : decode cX9_register 0 = .ok (.aload_n 0, 1) := by decide +kernel
theorem dX9_register_1 : decode cX9_register 1 = .ok (.invokevirtual 193, 3) := by decide +kernel
theorem dX9_register_10 : decode cX9_register 10 = .ok (.getfield 130, 3) := by decide +kernel
theorem dX9_register_13 : decode cX9_register 13 = .ok (.invokevirtual 157, 3) := by decide +kernel
theorem dX9_register_16 : decode cX9_register 16 = .ok (.ireturn, 1) := by decide +kernel
theorem dX9_register_17 : decode cX9_register 17 = .ok (.aload_n 0, 1) := by decide +kernel
theorem dX9_register_18 : decode cX9_register 18 = .ok (.getfield 22, 3) := by decide +kernel
theorem dX9_register_21 : decode cX9_register 21 = .ok (.aload_n 0, 1) := by decide +kernel
theorem dX9_register_22 : decode cX9_register 22 = .ok (.getfield 186, 3) := by decide +kernel
theorem dX9_register_25 : decode cX9_register 25 = .ok (.aload_n 0, 1) := by decide +kernel
theorem dX9_register_26 : decode cX9_register 26 = .ok (.getfield 133, 3) := by decide +kernel
theorem dX9_register_29 : decode cX9_register 29 = .ok (.l2i, 1) := by decide +kernel
theorem dX9_register_30 : decode cX9_register 30 = .ok (.bipush 97, 2) := by decide +kernel
theorem dX9_register_32 : decode cX9_register 32 = .ok (.isub, 1) := by decide +kernel
theorem dX9_register_33 : decode cX9_register 33 = .ok (.iastore, 1) := by decide +kernel
theorem dX9_register_34 : decode cX9_register 34 = .ok (.aload_n 0, 1) := by decide +kernel
theorem dX9_register_35 : decode cX9_register 35 = .ok (.invokevirtual 164, 3) := by decide +kernel
theorem dX9_register_38 : decode cX9_register 38 = .ok (.ireturn, 1) := by decide +kernel
theorem dX9_register_4 : decode cX9_register 4 = .ok (.ifCond .ne 13, 3) := by decide +kernel
theorem dX9_register_7 : decode cX9_register 7 = .ok (.aload_n 0, 1) := by decide +kernel
theorem dX9_register_8 : decode cX9_register 8 = .ok (.iconst 1, 1) := by decide +kernel
theorem dX9_register_9 : decode cX9_register 9 = .ok (.aload_n 0, 1) := by decide +kernel