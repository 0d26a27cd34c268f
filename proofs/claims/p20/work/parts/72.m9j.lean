theorem dX9_at_0 : decode cX9_at 0 = .ok (.iconst 0, 1) := by decide +kernel
theorem dX9_at_1 : decode cX9_at 1 = .ok (.istore_n 3, 1) := by decide +kernel
theorem dX9_at_12 : decode cX9_at 12 = .ok (.iload_n 3, 1) := by decide +kernel
theorem dX9_at_13 : decode cX9_at 13 = .ok (.aload_n 0, 1) := by decide +kernel
theorem dX9_at_14 : decode cX9_at 14 = .ok (.getfield 44, 3) := by decide +kernel
theorem dX9_at_17 : decode cX9_at 17 = .ok (.sipush 3000, 3) := by decide +kernel
theorem dX9_at_2 : decode cX9_at 2 = .ok (.iload_n 3, 1) := by decide +kernel
theorem dX9_at_20 : decode cX9_at 20 = .ok (.iload_n 1, 1) := by decide +kernel
theorem dX9_at_21 : decode cX9_at 21 = .ok (.imul, 1) := by decide +kernel
theorem dX9_at_22 : decode cX9_at 22 = .ok (.iload_n 2, 1) := by decide +kernel
theorem dX9_at_23 : decode cX9_at 23 = .ok (.iadd, 1) := by decide +kernel
theorem dX9_at_24 : decode cX9_at 24 = .ok (.bipush 58, 2) := by decide +kernel
theorem dX9_at_26 : decode cX9_at 26 = .ok (.imul, 1) := by decide +kernel
theorem dX9_at_27 : decode cX9_at 27 = .ok (.iload_n 3, 1) := by decide +kernel
theorem dX9_at_28 : decode cX9_at 28 = .ok (.iadd, 1) := by decide +kernel
theorem dX9_at_29 : decode cX9_at 29 = .ok (.iaload, 1) := by decide +kernel
theorem dX9_at_3 : decode cX9_at 3 = .ok (.bipush 58, 2) := by decide +kernel
theorem dX9_at_30 : decode cX9_at 30 = .ok (.iastore, 1) := by decide +kernel
theorem dX9_at_31 : decode cX9_at 31 = .ok (.iinc 3 1, 3) := by decide +kernel
theorem dX9_at_34 : decode cX9_at 34 = .ok (.goto (-32), 3) := by decide +kernel
theorem dX9_at_37 : decode cX9_at 37 = .ok (.return_, 1) := by decide +kernel
theorem dX9_at_5 : decode cX9_at 5 = .ok (.if_icmp .ge 32, 3) := by decide +kernel
theorem dX9_at_8 : decode cX9_at 8 = .ok (.aload_n 0, 1) := by decide +kernel
theorem dX9_at_9 : decode cX9_at 9 = .ok (.getfield 75, 3) := by decide +kernel
theorem dX9_compare_0 : decode cX9_compare 0 = .ok (.iconst 0, 1) := by decide +kernel
theorem dX9_compare_1 : decode cX9_compare 1 = .ok (.istore 5, 2) := by decide +kernel
theorem dX9_compare_10 : decode cX9_compare 10 = .ok (.aload_n 0, 1) := by decide +kernel
theorem dX9_compare_11 : decode cX9_compare 11 = .ok (.iload_n 1, 1) := by decide +kernel
theorem dX9_compare_12 : decode cX9_compare 12 = .ok (.iload_n 2, 1) := by decide +kernel
theorem dX9_compare_13 : decode cX9_compare 13 = .ok (.iload 5, 2) := by decide +kernel
theorem dX9_compare_15 : decode cX9_compare 15 = .ok (.invokevirtual 324, 3) := by decide +kernel
theorem dX9_compare_18 : decode cX9_compare 18 = .ok (.istore 6, 2) := by decide +kernel
theorem dX9_compare_20 : decode cX9_compare 20 = .ok (.aload_n 0, 1) := by decide +kernel
theorem dX9_compare_21 : decode cX9_compare 21 = .ok (.iload_n 3, 1) := by decide +kernel
theorem dX9_compare_22 : decode cX9_compare 22 = .ok (.iload 4, 2) := by decide +kernel
theorem dX9_compare_24 : decode cX9_compare 24 = .ok (.iload 5, 2) := by decide +kernel
theorem dX9_compare_26 : decode cX9_compare 26 = .ok (.invokevirtual 324, 3) := by decide +kernel
theorem dX9_compare_29 : decode cX9_compare 29 = .ok (.istore 7, 2) := by decide +kernel
theorem dX9_compare_3 : decode cX9_compare 3 = .ok (.iload 5, 2) := by decide +kernel
theorem dX9_compare_31 : decode cX9_compare 31 = .ok (.iload 6, 2) := by decide +kernel
theorem dX9_compare_33 : decode cX9_compare 33 = .ok (.iload 7, 2) := by decide +kernel
theorem dX9_compare_35 : decode cX9_compare 35 = .ok (.if_icmp .eq 16, 3) := by decide +kernel
theorem dX9_compare_38 : decode cX9_compare 38 = .ok (.iload 6, 2) := by decide +kernel
theorem dX9_compare_40 : decode cX9_compare 40 = .ok (.iload 7, 2) := by decide +kernel
theorem dX9_compare_42 : decode cX9_compare 42 = .ok (.if_icmp .ge 7, 3) := by decide +kernel
theorem dX9_compare_45 : decode cX9_compare 45 = .ok (.iconst (-1), 1) := by decide +kernel
theorem dX9_compare_46 : decode cX9_compare 46 = .ok (.goto 4, 3) := by decide +kernel
theorem dX9_compare_49 : decode cX9_compare 49 = .ok (.iconst 1, 1) := by decide +kernel
theorem dX9_compare_5 : decode cX9_compare 5 = .ok (.bipush 13, 2) := by decide +kernel
theorem dX9_compare_50 : decode cX9_compare 50 = .ok (.ireturn, 1) := by decide +kernel
theorem dX9_compare_51 : decode cX9_compare 51 = .ok (.iinc 5 1, 3) := by decide +kernel
theorem dX9_compare_54 : decode cX9_compare 54 = .ok (.goto (-51), 3) := by decide +kernel
theorem dX9_compare_57 : decode cX9_compare 57 = .ok (.iconst 0, 1) := by decide +kernel
theorem dX9_compare_58 : decode cX9_compare 58 = .ok (.ireturn, 1) := by decide +kernel
theorem dX9_compare_7 : decode cX9_compare 7 = .ok (.if_icmp .ge 50, 3) := by decide +kernel
theorem dX9_first_0 : decode cX9_first 0 = .ok (.iconst 0, 1) := by decide +kernel
theorem dX9_first_1 : decode cX9_first 1 = .ok (.istore_n 1, 1) := by decide +kernel
theorem dX9_first_12 : decode cX9_first 12 = .ok (.iload_n 1, 1) := by decide +kernel
theorem dX9_first_13 : decode cX9_first 13 = .ok (.iconst 0, 1) := by decide +kernel
theorem dX9_first_14 : decode cX9_first 14 = .ok (.iastore, 1) := by decide +kernel
theorem dX9_first_15 : decode cX9_first 15 = .ok (.iinc 1 1, 3) := by decide +kernel
theorem dX9_first_18 : decode cX9_first 18 = .ok (.goto (-16), 3) := by decide +kernel
theorem dX9_first_2 : decode cX9_first 2 = .ok (.iload_n 1, 1) := by decide +kernel
theorem dX9_first_21 : decode cX9_first 21 = .ok (.iconst 0, 1) := by decide +kernel
theorem dX9_first_22 : decode cX9_first 22 = .ok (.istore_n 1, 1) := by decide +kernel
theorem dX9_first_23 : decode cX9_first 23 = .ok (.iload_n 1, 1) := by decide +kernel
theorem dX9_first_24 : decode cX9_first 24 = .ok (.iconst 4, 1) := by decide +kernel
theorem dX9_first_25 : decode cX9_first 25 = .ok (.if_icmp .ge 24, 3) := by decide +kernel
theorem dX9_first_28 : decode cX9_first 28 = .ok (.aload_n 0, 1) := by decide +kernel
theorem dX9_first_29 : decode cX9_first 29 = .ok (.getfield 75, 3) := by decide +kernel
theorem dX9_first_3 : decode cX9_first 3 = .ok (.bipush 58, 2) := by decide +kernel
theorem dX9_first_32 : decode cX9_first 32 = .ok (.bipush 12, 2) := by decide +kernel
theorem dX9_first_34 : decode cX9_first 34 = .ok (.iload_n 1, 1) := by decide +kernel
theorem dX9_first_35 : decode cX9_first 35 = .ok (.iadd, 1) := by decide +kernel
theorem dX9_first_36 : decode cX9_first 36 = .ok (.aload_n 0, 1) := by decide +kernel
theorem dX9_first_37 : decode cX9_first 37 = .ok (.getfield 40, 3) := by decide +kernel
theorem dX9_first_40 : decode cX9_first 40 = .ok (.iload_n 1, 1) := by decide +kernel
theorem dX9_first_41 : decode cX9_first 41 = .ok (.iaload, 1) := by decide +kernel
theorem dX9_first_42 : decode cX9_first 42 = .ok (.iastore, 1) := by decide +kernel
theorem dX9_first_43 : decode cX9_first 43 = .ok (.iinc 1 1, 3) := by decide +kernel
theorem dX9_first_46 : decode cX9_first 46 = .ok (.goto (-23), 3) := by decide +kernel
theorem dX9_first_49 : decode cX9_first 49 = .ok (.return_, 1) := by decide +kernel
theorem dX9_first_5 : decode cX9_first 5 = .ok (.if_icmp .ge 16, 3) := by decide +kernel
theorem dX9_first_8 : decode cX9_first 8 = .ok (.aload_n 0, 1) := by decide +kernel
theorem dX9_first_9 : decode cX9_first 9 = .ok (.getfield 75, 3) := by decide +kernel
theorem dX9_isNow_0 : decode cX9_isNow 0 = .ok (.sipush 3000, 3) := by decide +kernel
theorem dX9_isNow_10 : decode cX9_isNow 10 = .ok (.istore_n 3, 1) := by decide +kernel
theorem dX9_isNow_11 : decode cX9_isNow 11 = .ok (.iconst 0, 1) := by decide +kernel
theorem dX9_isNow_12 : decode cX9_isNow 12 = .ok (.istore 4, 2) := by decide +kernel
theorem dX9_isNow_14 : decode cX9_isNow 14 = .ok (.iload 4, 2) := by decide +kernel
theorem dX9_isNow_16 : decode cX9_isNow 16 = .ok (.bipush 58, 2) := by decide +kernel
theorem dX9_isNow_18 : decode cX9_isNow 18 = .ok (.if_icmp .ge 30, 3) := by decide +kernel
theorem dX9_isNow_21 : decode cX9_isNow 21 = .ok (.aload_n 0, 1) := by decide +kernel
theorem dX9_isNow_22 : decode cX9_isNow 22 = .ok (.getfield 44, 3) := by decide +kernel
theorem dX9_isNow_25 : decode cX9_isNow 25 = .ok (.iload_n 3, 1) := by decide +kernel
theorem dX9_isNow_26 : decode cX9_isNow 26 = .ok (.iload 4, 2) := by decide +kernel
theorem dX9_isNow_28 : decode cX9_isNow 28 = .ok (.iadd, 1) := by decide +kernel
theorem dX9_isNow_29 : decode cX9_isNow 29 = .ok (.iaload, 1) := by decide +kernel
theorem dX9_isNow_3 : decode cX9_isNow 3 = .ok (.iload_n 1, 1) := by decide +kernel
theorem dX9_isNow_30 : decode cX9_isNow 30 = .ok (.aload_n 0, 1) := by decide +kernel
theorem dX9_isNow_31 : decode cX9_isNow 31 = .ok (.getfield 75, 3) := by decide +kernel
theorem dX9_isNow_34 : decode cX9_isNow 34 = .ok (.iload 4, 2) := by decide +kernel
theorem dX9_isNow_36 : decode cX9_isNow 36 = .ok (.iaload, 1) := by decide +kernel
theorem dX9_isNow_37 : decode cX9_isNow 37 = .ok (.if_icmp .eq 5, 3) := by decide +kernel
theorem dX9_isNow_4 : decode cX9_isNow 4 = .ok (.imul, 1) := by decide +kernel
theorem dX9_isNow_40 : decode cX9_isNow 40 = .ok (.iconst 0, 1) := by decide +kernel
theorem dX9_isNow_41 : decode cX9_isNow 41 = .ok (.ireturn, 1) := by decide +kernel
theorem dX9_isNow_42 : decode cX9_isNow 42 = .ok (.iinc 4 1, 3) := by decide +kernel
theorem dX9_isNow_45 : decode cX9_isNow 45 = .ok (.goto (-31), 3) := by decide +kernel
theorem dX9_isNow_48 : decode cX9_isNow 48 = .ok (.iconst 1, 1) := by decide +kernel
theorem dX9_isNow_49 : decode cX9_isNow 49 = .ok (.ireturn, 1) := by decide +kernel
theorem dX9_isNow_5 : decode cX9_isNow 5 = .ok (.iload_n 2, 1) := by decide +kernel
theorem dX9_isNow_6 : decode cX9_isNow 6 = .ok (.iadd, 1) := by decide +kernel
theorem dX9_isNow_7 : decode cX9_isNow 7 = .ok (.bipush 58, 2) := by decide +kernel
theorem dX9_isNow_9 : decode cX9_isNow 9 = .ok (.imul, 1) := by decide +kernel
theorem dX9_keepMachine_0 : decode cX9_keepMachine 0 = .ok (.iconst 0, 1) := by decide +kernel
theorem dX9_keepMachine_1 : decode cX9_keepMachine 1 = .ok (.istore_n 1, 1) := by decide +kernel
theorem dX9_keepMachine_12 : decode cX9_keepMachine 12 = .ok (.iload_n 1, 1) := by decide +kernel
theorem dX9_keepMachine_13 : decode cX9_keepMachine 13 = .ok (.aload_n 0, 1) := by decide +kernel
theorem dX9_keepMachine_14 : decode cX9_keepMachine 14 = .ok (.getfield 75, 3) := by decide +kernel
theorem dX9_keepMachine_17 : decode cX9_keepMachine 17 = .ok (.iload_n 1, 1) := by decide +kernel
theorem dX9_keepMachine_18 : decode cX9_keepMachine 18 = .ok (.iaload, 1) := by decide +kernel
theorem dX9_keepMachine_19 : decode cX9_keepMachine 19 = .ok (.iastore, 1) := by decide +kernel
theorem dX9_keepMachine_2 : decode cX9_keepMachine 2 = .ok (.iload_n 1, 1) := by decide +kernel
theorem dX9_keepMachine_20 : decode cX9_keepMachine 20 = .ok (.iinc 1 1, 3) := by decide +kernel
theorem dX9_keepMachine_23 : decode cX9_keepMachine 23 = .ok (.goto (-21), 3) := by decide +kernel
theorem dX9_keepMachine_26 : decode cX9_keepMachine 26 = .ok (.return_, 1) := by decide +kernel
theorem dX9_keepMachine_3 : decode cX9_keepMachine 3 = .ok (.bipush 58, 2) := by decide +kernel
theorem dX9_keepMachine_5 : decode cX9_keepMachine 5 = .ok (.if_icmp .ge 21, 3) := by decide +kernel
theorem dX9_keepMachine_8 : decode cX9_keepMachine 8 = .ok (.aload_n 0, 1) := by decide +kernel
theorem dX9_keepMachine_9 : decode cX9_keepMachine 9 = .ok (.getfield 78, 3) := by decide +kernel
theorem dX9_rowAt_0 : decode cX9_rowAt 0 = .ok (.bipush 16, 2) := by decide +kernel
theorem dX9_rowAt_2 : decode cX9_rowAt 2 = .ok (.bipush 13, 2) := by decide +kernel
theorem dX9_rowAt_4 : decode cX9_rowAt 4 = .ok (.iload_n 0, 1) := by decide +kernel
theorem dX9_rowAt_5 : decode cX9_rowAt 5 = .ok (.imul, 1) := by decide +kernel
theorem dX9_rowAt_6 : decode cX9_rowAt 6 = .ok (.iadd, 1) := by decide +kernel
theorem dX9_rowAt_7 : decode cX9_rowAt 7 = .ok (.ireturn, 1) := by decide +kernel
theorem dX9_sum_0 : decode cX9_sum 0 = .ok (.ldc2_w 289, 3) := by decide +kernel
theorem dX9_sum_11 : decode cX9_sum 11 = .ok (.if_icmp .ge 23, 3) := by decide +kernel
theorem dX9_sum_14 : decode cX9_sum 14 = .ok (.lload_n 2, 1) := by decide +kernel
theorem dX9_sum_15 : decode cX9_sum 15 = .ok (.ldc2_w 291, 3) := by decide +kernel
theorem dX9_sum_18 : decode cX9_sum 18 = .ok (.lmul, 1) := by decide +kernel
theorem dX9_sum_19 : decode cX9_sum 19 = .ok (.aload_n 0, 1) := by decide +kernel
theorem dX9_sum_20 : decode cX9_sum 20 = .ok (.iload_n 1, 1) := by decide +kernel
theorem dX9_sum_21 : decode cX9_sum 21 = .ok (.iload 4, 2) := by decide +kernel
theorem dX9_sum_23 : decode cX9_sum 23 = .ok (.iadd, 1) := by decide +kernel
theorem dX9_sum_24 : decode cX9_sum 24 = .ok (.iaload, 1) := by decide +kernel
theorem dX9_sum_25 : decode cX9_sum 25 = .ok (.i2l, 1) := by decide +kernel
theorem dX9_sum_26 : decode cX9_sum 26 = .ok (.ladd, 1) := by decide +kernel
theorem dX9_sum_27 : decode cX9_sum 27 = .ok (.lstore_n 2, 1) := by decide +kernel
theorem dX9_sum_28 : decode cX9_sum 28 = .ok (.iinc 4 1, 3) := by decide +kernel
theorem dX9_sum_3 : decode cX9_sum 3 = .ok (.lstore_n 2, 1) := by decide +kernel
theorem dX9_sum_31 : decode cX9_sum 31 = .ok (.goto (-24), 3) := by decide +kernel
theorem dX9_sum_34 : decode cX9_sum 34 = .ok (.lload_n 2, 1) := by decide +kernel
theorem dX9_sum_35 : decode cX9_sum 35 = .ok (.lload_n 2, 1) := by decide +kernel
theorem dX9_sum_36 : decode cX9_sum 36 = .ok (.bipush 23, 2) := by decide +kernel
theorem dX9_sum_38 : decode cX9_sum 38 = .ok (.lushr, 1) := by decide +kernel
theorem dX9_sum_39 : decode cX9_sum 39 = .ok (.lxor, 1) := by decide +kernel
theorem dX9_sum_4 : decode cX9_sum 4 = .ok (.iconst 0, 1) := by decide +kernel
theorem dX9_sum_40 : decode cX9_sum 40 = .ok (.lload_n 2, 1) := by decide +kernel
theorem dX9_sum_41 : decode cX9_sum 41 = .ok (.bipush 41, 2) := by decide +kernel
theorem dX9_sum_43 : decode cX9_sum 43 = .ok (.lushr, 1) := by decide +kernel
theorem dX9_sum_44 : decode cX9_sum 44 = .ok (.lxor, 1) := by decide +kernel
theorem dX9_sum_45 : decode cX9_sum 45 = .ok (.l2i, 1) := by decide +kernel
theorem dX9_sum_46 : decode cX9_sum 46 = .ok (.sipush 4095, 3) := by decide +kernel
theorem dX9_sum_49 : decode cX9_sum 49 = .ok (.iand, 1) := by decide +kernel
theorem dX9_sum_5 : decode cX9_sum 5 = .ok (.istore 4, 2) := by decide +kernel
theorem dX9_sum_50 : decode cX9_sum 50 = .ok (.ireturn, 1) := by decide +kernel
theorem dX9_sum_7 : decode cX9_sum 7 = .ok (.iload 4, 2) := by decide +kernel
theorem dX9_sum_9 : decode cX9_sum 9 = .ok (.bipush 58, 2) := by decide +kernel
theorem dX9_takeMachine_0 : decode cX9_takeMachine 0 = .ok (.iconst 0, 1) := by decide +kernel
theorem dX9_takeMachine_1 : decode cX9_takeMachine 1 = .ok (.istore_n 1, 1) := by decide +kernel
theorem dX9_takeMachine_12 : decode cX9_takeMachine 12 = .ok (.iload_n 1, 1) := by decide +kernel
theorem dX9_takeMachine_13 : decode cX9_takeMachine 13 = .ok (.aload_n 0, 1) := by decide +kernel
theorem dX9_takeMachine_14 : decode cX9_takeMachine 14 = .ok (.getfield 78, 3) := by decide +kernel
theorem dX9_takeMachine_17 : decode cX9_takeMachine 17 = .ok (.iload_n 1, 1) := by decide +kernel
theorem dX9_takeMachine_18 : decode cX9_takeMachine 18 = .ok (.iaload, 1) := by decide +kernel
theorem dX9_takeMachine_19 : decode cX9_takeMachine 19 = .ok (.iastore, 1) := by decide +kernel
theorem dX9_takeMachine_2 : decode cX9_takeMachine 2 = .ok (.iload_n 1, 1) := by decide +kernel
theorem dX9_takeMachine_20 : decode cX9_takeMachine 20 = .ok (.iinc 1 1, 3) := by decide +kernel
theorem dX9_takeMachine_23 : decode cX9_takeMachine 23 = .ok (.goto (-21), 3) := by decide +kernel
theorem dX9_takeMachine_26 : decode cX9_takeMachine 26 = .ok (.return_, 1) := by decide +kernel
theorem dX9_takeMachine_3 : decode cX9_takeMachine 3 = .ok (.bipush 58, 2) := by decide +kernel
theorem dX9_takeMachine_5 : decode cX9_takeMachine 5 = .ok (.if_icmp .ge 21, 3) := by decide +kernel
theorem dX9_takeMachine_8 : decode cX9_takeMachine 8 = .ok (.aload_n 0, 1) := by decide +kernel
theorem dX9_takeMachine_9 : decode cX9_takeMachine 9 = .ok (.getfield 75, 3) := by decide +kernel
theorem dX9_told_0 : decode cX9_told 0 = .ok (.aload_n 0, 1) := by decide +kernel
theorem dX9_told_1 : decode cX9_told 1 = .ok (.getfield 44, 3) := by decide +kernel
theorem dX9_told_10 : decode cX9_told 10 = .ok (.iadd, 1) := by decide +kernel
theorem dX9_told_11 : decode cX9_told 11 = .ok (.bipush 58, 2) := by decide +kernel
theorem dX9_told_13 : decode cX9_told 13 = .ok (.imul, 1) := by decide +kernel
theorem dX9_told_14 : decode cX9_told 14 = .ok (.iconst 3, 1) := by decide +kernel
theorem dX9_told_15 : decode cX9_told 15 = .ok (.iadd, 1) := by decide +kernel
theorem dX9_told_16 : decode cX9_told 16 = .ok (.iload_n 3, 1) := by decide +kernel
theorem dX9_told_17 : decode cX9_told 17 = .ok (.iadd, 1) := by decide +kernel
theorem dX9_told_18 : decode cX9_told 18 = .ok (.iaload, 1) := by decide +kernel
theorem dX9_told_19 : decode cX9_told 19 = .ok (.ireturn, 1) := by decide +kernel
theorem dX9_told_4 : decode cX9_told 4 = .ok (.sipush 3000, 3) := by decide +kernel
theorem dX9_told_7 : decode cX9_told 7 = .ok (.iload_n 1, 1) := by decide +kernel
theorem dX9_told_8 : decode cX9_told 8 = .ok (.imul, 1) := by decide +kernel
theorem dX9_told_9 : decode cX9_told 9 = .ok (.iload_n 2, 1) := by decide +kernel
def wsP_c_rowAt9 : List Cond := .code yX9_rowAt cX9_rowAt 1 (some .int) :: (([]) ++ [])
theorem gW_c_rowAt9 : wsP_c_rowAt9.all goodWord = true := by unfold wsP_c_rowAt9; exact gw_mk (by decide +kernel) rfl
set_option maxHeartbeats 4000000 in
set_option maxRecDepth 100000 in
theorem c_rowAt9 (l : Launch) (D : va_G) (cI cB cZ : ClassId) (k : Nat)  : gMi l yX9_rowAt wsP_c_rowAt9 ({ frames := 0, cells := 0, slots := 0, locals := 0 }) D cI cB cZ [] [.int (nI k)] [] (fun r9 w9 => r9 = (nI (16 + (13 * k))) ∧ w9 = []) := by
  refine gMi.of (cc := cX9_rowAt) (maxL := 1) (ret := (some .int)) (by decide) rfl (Nat.le_of_ble_eq_true rfl) (fun p e s m below meth c A ls hx hb hr hlk hml hts hown hin hA hP hK hD hS hN hl => ?_)
  have hown : s.vm.findClass RX9 = some m.cls := hown
  have hl : lv_has ls 1 [(0, .int (nI k))] := hl
  refine lv_bipush (v := 16) hx hb dX9_rowAt_0 (by decide) ?_
  refine lv_bipush (v := 13) hx hb dX9_rowAt_2 (by decide) ?_
  refine lv_iload_n hx hb dX9_rowAt_4 rfl (lv_at hl 0 rfl) ?_
  refine lv_imul hx hb dX9_rowAt_5 ?_
  refine gx_top (y := nI (13 * k)) (pk_mul 13 k) ?_
  refine lv_iadd hx hb dX9_rowAt_6 ?_
  refine gx_top (y := nI (16 + (13 * k))) (nI_add 16 (13 * k)) ?_
  exact gx_iret (w' := []) hx hb hr hlk hK hP hD hS (Nat.le_of_ble_eq_true rfl) (Nat.le_of_ble_eq_true rfl) dX9_rowAt_7 ⟨rfl, rfl⟩
theorem gy_z4 {g : Nat → Int32} {i : Nat} {x : Int32} (h : ∀ j, j < 58 → (j < 12 ∨ 16 ≤ j) → g j = 0) (hi : i < 4) : ∀ j, j < 58 → (j < 12 ∨ 16 ≤ j) → upd g (12 + i) x j = 0 := by
  intro j h1 h2
  rw [pk_un (by omega)]
  exact h j h1 h2
theorem gy_cpl {f g : Nat → Int32} {i : Nat} (h : ∀ j, j < i → g j = f j) : ∀ j, j < i + 1 → upd g i (f i) j = f j := by
  intro j hj
  by_cases e : j = i
  · subst e; exact pk_us
  · rw [pk_un e]; exact h j (by omega)
def wsP_c_at9 : List Cond := .code yX9_at cX9_at 4 none :: (([.fieldLink RX9 75 "LitmusHallModel" "now" "[I", .fieldLink RX9 44 "LitmusHallModel" "state" "[I"] ++ wsX90) ++ [])
theorem gW_c_at9 : wsP_c_at9.all goodWord = true := by unfold wsP_c_at9; exact gw_mk (by decide +kernel) rfl
set_option maxHeartbeats 4000000 in
set_option maxRecDepth 100000 in
theorem c_at9 (l : Launch) (D : va_G) (cI cB cZ : ClassId) (h0 : Nat) (a12 : Nat) (a22 : Nat) (v0 : Value) (v1 : Value) (v2 : Value) (v3 : Value) (v4 : Value) (v5 : Value) (v6 : Value) (v7 : Value) (v8 : Value) (v9 : Value) (v10 : Value) (v11 : Value) (v13 : Value) (v14 : Value) (v15 : Value) (v16 : Value) (v17 : Value) (v18 : Value) (v19 : Value) (v20 : Value) (v21 : Value) (v23 : Value) (v24 : Value) (v25 : Value) (v26 : Value) (v27 : Value) (v28 : Value) (v29 : Value) (v30 : Value) (v31 : Value) (v32 : Value) (v33 : Value) (v34 : Value) (v35 : Value) (v36 : Value) (v37 : Value) (v38 : Value) (v39 : Value) (v40 : Value) (v41 : Value) (v42 : Value) (v43 : Value) (v44 : Value) (v45 : Value) (v46 : Value) (v47 : Value) (v48 : Value) (v49 : Value) (v50 : Value) (v51 : Value) (sf : Nat → Int32) (nw : Nat → Int32) (s9 : Nat) (n : Nat) (hs : s9 < 3) (hn : n < 3000) : gMv l yX9_at wsP_c_at9 ({ frames := 0, cells := 0, slots := 0, locals := 0 }) D cI cB cZ [] [.ref h0, .int (nI s9), .int (nI n)] [(h0, .inr (9, [v0, v1, v2, v3, v4, v5, v6, v7, v8, v9, v10, v11, .ref a12, v13, v14, v15, v16, v17, v18, v19, v20, v21, .ref a22, v23, v24, v25, v26, v27, v28, v29, v30, v31, v32, v33, v34, v35, v36, v37, v38, v39, v40, v41, v42, v43, v44, v45, v46, v47, v48, v49, v50, v51])), (a12, .inl (cI, 522000, .inl sf)), (a22, .inl (cI, 58, .inl nw))] (fun w9 => ∃ nw9 : Nat → Int32, (∀ j, j < 58 → nw9 j = sf ((((3000 * s9) + n) * 58) + j)) ∧ w9 = [(h0, .inr (9, [v0, v1, v2, v3, v4, v5, v6, v7, v8, v9, v10, v11, .ref a12, v13, v14, v15, v16, v17, v18, v19, v20, v21, .ref a22, v23, v24, v25, v26, v27, v28, v29, v30, v31, v32, v33, v34, v35, v36, v37, v38, v39, v40, v41, v42, v43, v44, v45, v46, v47, v48, v49, v50, v51])), (a12, .inl (cI, 522000, .inl sf)), (a22, .inl (cI, 58, .inl nw9))]) := by
  refine gMv.of (cc := cX9_at) (maxL := 4) (ret := none) (by decide) rfl (Nat.le_of_ble_eq_true rfl) (fun p e s m below meth c A ls hx hb hr hlk hml hts hown hin hA hP hK hD hS hN hl => ?_)
  have hown : s.vm.findClass RX9 = some m.cls := hown
  have hl : lv_has ls 4 [(0, .ref h0), (1, .int (nI s9)), (2, .int (nI n))] := hl
  refine lv_iconst (v := 0) hx hb dX9_at_0 (by decide) ?_
  refine lv_istore_n (lv' := [(3, .int 0), (0, .ref h0), (1, .int (nI s9)), (2, .int (nI n))]) hx hb dX9_at_1 rfl hl (by decide) rfl (fun ls hl => ?_)
  refine gy_loop0 (I := fun (x9 : Nat × (Nat → Int32)) H locs ls => (x9.1 ≤ 58) ∧ (∀ j, j < x9.1 → x9.2 j = sf ((((3000 * s9) + n) * 58) + j)) ∧ va_P D vwCl [(h0, .inr (9, [v0, v1, v2, v3, v4, v5, v6, v7, v8, v9, v10, v11, .ref a12, v13, v14, v15, v16, v17, v18, v19, v20, v21, .ref a22, v23, v24, v25, v26, v27, v28, v29, v30, v31, v32, v33, v34, v35, v36, v37, v38, v39, v40, v41, v42, v43, v44, v45, v46, v47, v48, v49, v50, v51])), (a12, .inl (cI, 522000, .inl sf)), (a22, .inl (cI, 58, .inl x9.2))] H ∧ va_D A [(h0, .inr (9, [v0, v1, v2, v3, v4, v5, v6, v7, v8, v9, v10, v11, .ref a12, v13, v14, v15, v16, v17, v18, v19, v20, v21, .ref a22, v23, v24, v25, v26, v27, v28, v29, v30, v31, v32, v33, v34, v35, v36, v37, v38, v39, v40, v41, v42, v43, v44, v45, v46, v47, v48, v49, v50, v51])), (a12, .inl (cI, 522000, .inl sf)), (a22, .inl (cI, 58, .inl x9.2))] ∧ va_S A s.heap H locs ∧ lv_has ls 4 [(3, .int (nI x9.1)), (0, .ref h0), (1, .int (nI s9)), (2, .int (nI n))]) (μ := fun (x9 : Nat × (Nat → Int32)) => 58 - x9.1) (fun x9 H locs ls hI ih2 => ?_) (0, nw) ⟨(by show 0 ≤ 58; exact Nat.le_of_ble_eq_true rfl), (fun j h => absurd h (Nat.not_lt_zero j)), hP, hD, hS, lv_sub hl [0, 1, 2, 3] rfl⟩
  obtain ⟨i, g⟩ := x9
  obtain ⟨hi2_0, hi2_1, hP, hD, hS, hl⟩ := hI
  have hi2_0 : i ≤ 58 := hi2_0
  have hi2_1 : ∀ j, j < i → g j = sf ((((3000 * s9) + n) * 58) + j) := hi2_1
  have hP : va_P D vwCl [(h0, .inr (9, [v0, v1, v2, v3, v4, v5, v6, v7, v8, v9, v10, v11, .ref a12, v13, v14, v15, v16, v17, v18, v19, v20, v21, .ref a22, v23, v24, v25, v26, v27, v28, v29, v30, v31, v32, v33, v34, v35, v36, v37, v38, v39, v40, v41, v42, v43, v44, v45, v46, v47, v48, v49, v50, v51])), (a12, .inl (cI, 522000, .inl sf)), (a22, .inl (cI, 58, .inl g))] H := hP
  have hD : va_D A [(h0, .inr (9, [v0, v1, v2, v3, v4, v5, v6, v7, v8, v9, v10, v11, .ref a12, v13, v14, v15, v16, v17, v18, v19, v20, v21, .ref a22, v23, v24, v25, v26, v27, v28, v29, v30, v31, v32, v33, v34, v35, v36, v37, v38, v39, v40, v41, v42, v43, v44, v45, v46, v47, v48, v49, v50, v51])), (a12, .inl (cI, 522000, .inl sf)), (a22, .inl (cI, 58, .inl g))] := hD
  have hS : va_S A s.heap H locs := hS
  have hl : lv_has ls 4 [(3, .int (nI i)), (0, .ref h0), (1, .int (nI s9)), (2, .int (nI n))] := hl
  refine lv_iload_n hx hb dX9_at_2 rfl (lv_at hl 0 rfl) ?_
  refine lv_bipush (v := 58) hx hb dX9_at_3 (by decide) ?_
  refine gy_ge (a := i) (b := 58) (tgt := 37) hx hb (by omega) (by omega) dX9_at_5 (by decide) (fun c_1 => ?_) (fun c_1 => ?_)
  · exact gx_vret (w' := [(h0, .inr (9, [v0, v1, v2, v3, v4, v5, v6, v7, v8, v9, v10, v11, .ref a12, v13, v14, v15, v16, v17, v18, v19, v20, v21, .ref a22, v23, v24, v25, v26, v27, v28, v29, v30, v31, v32, v33, v34, v35, v36, v37, v38, v39, v40, v41, v42, v43, v44, v45, v46, v47, v48, v49, v50, v51])), (a12, .inl (cI, 522000, .inl sf)), (a22, .inl (cI, 58, .inl g))]) hx hb hr hlk hK hP hD hS (Nat.le_of_ble_eq_true rfl) (Nat.le_of_ble_eq_true rfl) dX9_at_37 ⟨g, (fun j h => hi2_1 j (by omega)), rfl⟩
  · refine lv_aload_n hx hb dX9_at_8 rfl (lv_at hl 1 rfl) ?_
    refine va_get (D := D) (ci := 9) (v := .ref a22) (C := RX9) (T := TX9) (N := 52) hx hb hts (fun _ h => List.mem_cons_of_mem _ (List.mem_append_left _ (List.mem_append_right _ h))) hown hK hP 0 rfl rfl 22 (by decide) (hts (.fieldLink RX9 75 "LitmusHallModel" "now" "[I") (by decide +kernel)) (fun _ h9 => h9) rfl dX9_at_9 ?_
    refine lv_iload_n hx hb dX9_at_12 rfl (lv_at hl 0 rfl) ?_
    refine lv_aload_n hx hb dX9_at_13 rfl (lv_at hl 1 rfl) ?_
    refine va_get (D := D) (ci := 9) (v := .ref a12) (C := RX9) (T := TX9) (N := 52) hx hb hts (fun _ h => List.mem_cons_of_mem _ (List.mem_append_left _ (List.mem_append_right _ h))) hown hK hP 0 rfl rfl 12 (by decide) (hts (.fieldLink RX9 44 "LitmusHallModel" "state" "[I") (by decide +kernel)) (fun _ h9 => h9) rfl dX9_at_14 ?_
    refine lv_sipush (v := 3000) hx hb dX9_at_17 (by decide) ?_
    refine lv_iload_n hx hb dX9_at_20 rfl (lv_at hl 2 rfl) ?_
    refine lv_imul hx hb dX9_at_21 ?_
    refine gx_top (y := nI (3000 * s9)) (pk_mul 3000 s9) ?_
    refine lv_iload_n hx hb dX9_at_22 rfl (lv_at hl 3 rfl) ?_
    refine lv_iadd hx hb dX9_at_23 ?_
    refine gx_top (y := nI ((3000 * s9) + n)) (nI_add (3000 * s9) n) ?_
    refine lv_bipush (v := 58) hx hb dX9_at_24 (by decide) ?_
    refine lv_imul hx hb dX9_at_26 ?_
    refine gx_top (y := nI (((3000 * s9) + n) * 58)) (pk_mul ((3000 * s9) + n) 58) ?_
    refine lv_iload_n hx hb dX9_at_27 rfl (lv_at hl 0 rfl) ?_
    refine lv_iadd hx hb dX9_at_28 ?_
    refine gx_top (y := nI ((((3000 * s9) + n) * 58) + i)) (nI_add (((3000 * s9) + n) * 58) i) ?_
    refine gy_ild (i := ((((3000 * s9) + n) * 58) + i)) hx hb hK hP 1 rfl (by omega) (by omega) dX9_at_29 ?_
    refine gy_ist (i := i) hx hb hK hP hD hS 2 rfl (by omega) (by omega) dX9_at_30 (fun H locs hP hD hS => ?_)
    have hP : va_P D vwCl [(h0, .inr (9, [v0, v1, v2, v3, v4, v5, v6, v7, v8, v9, v10, v11, .ref a12, v13, v14, v15, v16, v17, v18, v19, v20, v21, .ref a22, v23, v24, v25, v26, v27, v28, v29, v30, v31, v32, v33, v34, v35, v36, v37, v38, v39, v40, v41, v42, v43, v44, v45, v46, v47, v48, v49, v50, v51])), (a12, .inl (cI, 522000, .inl sf)), (a22, .inl (cI, 58, .inl (upd g i (sf ((((3000 * s9) + n) * 58) + i)))))] H := hP
    have hD : va_D A [(h0, .inr (9, [v0, v1, v2, v3, v4, v5, v6, v7, v8, v9, v10, v11, .ref a12, v13, v14, v15, v16, v17, v18, v19, v20, v21, .ref a22, v23, v24, v25, v26, v27, v28, v29, v30, v31, v32, v33, v34, v35, v36, v37, v38, v39, v40, v41, v42, v43, v44, v45, v46, v47, v48, v49, v50, v51])), (a12, .inl (cI, 522000, .inl sf)), (a22, .inl (cI, 58, .inl (upd g i (sf ((((3000 * s9) + n) * 58) + i)))))] := hD
    refine lv_iinc (v := nI (i + 1)) (lv' := [(3, .int (nI (i + 1))), (0, .ref h0), (1, .int (nI s9)), (2, .int (nI n))]) hx hb dX9_at_31 hl (k := 0) rfl (nI_add i 1) (by decide) rfl (fun ls hl => ?_)
    refine lv_goto (tgt := 2) hx hb dX9_at_34 (by decide) ?_
    exact ih2 ((i + 1), (upd g i (sf ((((3000 * s9) + n) * 58) + i)))) H locs ls ⟨(by show (i + 1) ≤ 58; omega), (gy_cpl (f := fun j => sf ((((3000 * s9) + n) * 58) + j)) hi2_1), hP, hD, hS, lv_sub hl [0, 1, 2, 3] rfl⟩ (by show 58 - (i + 1) < 58 - i; omega)
def wsP_c_keepMachine9 : List Cond := .code yX9_keepMachine cX9_keepMachine 2 none :: (([.fieldLink RX9 78 "LitmusHallModel" "machine" "[I", .fieldLink RX9 75 "LitmusHallModel" "now" "[I"] ++ wsX90) ++ [])
theorem gW_c_keepMachine9 : wsP_c_keepMachine9.all goodWord = true := by unfold wsP_c_keepMachine9; exact gw_mk (by decide +kernel) rfl
set_option maxHeartbeats 4000000 in
set_option maxRecDepth 100000 in
theorem c_keepMachine9 (l : Launch) (D : va_G) (cI cB cZ : ClassId) (h0 : Nat) (a22 : Nat) (a23 : Nat) (v0 : Value) (v1 : Value) (v2 : Value) (v3 : Value) (v4 : Value) (v5 : Value) (v6 : Value) (v7 : Value) (v8 : Value) (v9 : Value) (v10 : Value) (v11 : Value) (v12 : Value) (v13 : Value) (v14 : Value) (v15 : Value) (v16 : Value) (v17 : Value) (v18 : Value) (v19 : Value) (v20 : Value) (v21 : Value) (v24 : Value) (v25 : Value) (v26 : Value) (v27 : Value) (v28 : Value) (v29 : Value) (v30 : Value) (v31 : Value) (v32 : Value) (v33 : Value) (v34 : Value) (v35 : Value) (v36 : Value) (v37 : Value) (v38 : Value) (v39 : Value) (v40 : Value) (v41 : Value) (v42 : Value) (v43 : Value) (v44 : Value) (v45 : Value) (v46 : Value) (v47 : Value) (v48 : Value) (v49 : Value) (v50 : Value) (v51 : Value) (df : Nat → Int32) (sf : Nat → Int32)  : gMv l yX9_keepMachine wsP_c_keepMachine9 ({ frames := 0, cells := 0, slots := 0, locals := 0 }) D cI cB cZ [] [.ref h0] [(h0, .inr (9, [v0, v1, v2, v3, v4, v5, v6, v7, v8, v9, v10, v11, v12, v13, v14, v15, v16, v17, v18, v19, v20, v21, .ref a22, .ref a23, v24, v25, v26, v27, v28, v29, v30, v31, v32, v33, v34, v35, v36, v37, v38, v39, v40, v41, v42, v43, v44, v45, v46, v47, v48, v49, v50, v51])), (a23, .inl (cI, 58, .inl df)), (a22, .inl (cI, 58, .inl sf))] (fun w9 => ∃ df9 : Nat → Int32, (∀ j, j < 58 → df9 j = sf j) ∧ w9 = [(h0, .inr (9, [v0, v1, v2, v3, v4, v5, v6, v7, v8, v9, v10, v11, v12, v13, v14, v15, v16, v17, v18, v19, v20, v21, .ref a22, .ref a23, v24, v25, v26, v27, v28, v29, v30, v31, v32, v33, v34, v35, v36, v37, v38, v39, v40, v41, v42, v43, v44, v45, v46, v47, v48, v49, v50, v51])), (a23, .inl (cI, 58, .inl df9)), (a22, .inl (cI, 58, .inl sf))]) := by
  refine gMv.of (cc := cX9_keepMachine) (maxL := 2) (ret := none) (by decide) rfl (Nat.le_of_ble_eq_true rfl) (fun p e s m below meth c A ls hx hb hr hlk hml hts hown hin hA hP hK hD hS hN hl => ?_)
  have hown : s.vm.findClass RX9 = some m.cls := hown
  have hl : lv_has ls 2 [(0, .ref h0)] := hl
  refine lv_iconst (v := 0) hx hb dX9_keepMachine_0 (by decide) ?_
  refine lv_istore_n (lv' := [(1, .int 0), (0, .ref h0)]) hx hb dX9_keepMachine_1 rfl hl (by decide) rfl (fun ls hl => ?_)
  refine gy_loop0 (I := fun (x9 : Nat × (Nat → Int32)) H locs ls => (x9.1 ≤ 58) ∧ (∀ j, j < x9.1 → x9.2 j = sf j) ∧ va_P D vwCl [(h0, .inr (9, [v0, v1, v2, v3, v4, v5, v6, v7, v8, v9, v10, v11, v12, v13, v14, v15, v16, v17, v18, v19, v20, v21, .ref a22, .ref a23, v24, v25, v26, v27, v28, v29, v30, v31, v32, v33, v34, v35, v36, v37, v38, v39, v40, v41, v42, v43, v44, v45, v46, v47, v48, v49, v50, v51])), (a23, .inl (cI, 58, .inl x9.2)), (a22, .inl (cI, 58, .inl sf))] H ∧ va_D A [(h0, .inr (9, [v0, v1, v2, v3, v4, v5, v6, v7, v8, v9, v10, v11, v12, v13, v14, v15, v16, v17, v18, v19, v20, v21, .ref a22, .ref a23, v24, v25, v26, v27, v28, v29, v30, v31, v32, v33, v34, v35, v36, v37, v38, v39, v40, v41, v42, v43, v44, v45, v46, v47, v48, v49, v50, v51])), (a23, .inl (cI, 58, .inl x9.2)), (a22, .inl (cI, 58, .inl sf))] ∧ va_S A s.heap H locs ∧ lv_has ls 2 [(1, .int (nI x9.1)), (0, .ref h0)]) (μ := fun (x9 : Nat × (Nat → Int32)) => 58 - x9.1) (fun x9 H locs ls hI ih2 => ?_) (0, df) ⟨(by show 0 ≤ 58; exact Nat.le_of_ble_eq_true rfl), (fun j h => absurd h (Nat.not_lt_zero j)), hP, hD, hS, lv_sub hl [0, 1] rfl⟩
  obtain ⟨i, g⟩ := x9
  obtain ⟨hi2_0, hi2_1, hP, hD, hS, hl⟩ := hI
  have hi2_0 : i ≤ 58 := hi2_0
  have hi2_1 : ∀ j, j < i → g j = sf j := hi2_1
  have hP : va_P D vwCl [(h0, .inr (9, [v0, v1, v2, v3, v4, v5, v6, v7, v8, v9, v10, v11, v12, v13, v14, v15, v16, v17, v18, v19, v20, v21, .ref a22, .ref a23, v24, v25, v26, v27, v28, v29, v30, v31, v32, v33, v34, v35, v36, v37, v38, v39, v40, v41, v42, v43, v44, v45, v46, v47, v48, v49, v50, v51])), (a23, .inl (cI, 58, .inl g)), (a22, .inl (cI, 58, .inl sf))] H := hP
  have hD : va_D A [(h0, .inr (9, [v0, v1, v2, v3, v4, v5, v6, v7, v8, v9, v10, v11, v12, v13, v14, v15, v16, v17, v18, v19, v20, v21, .ref a22, .ref a23, v24, v25, v26, v27, v28, v29, v30, v31, v32, v33, v34, v35, v36, v37, v38, v39, v40, v41, v42, v43, v44, v45, v46, v47, v48, v49, v50, v51])), (a23, .inl (cI, 58, .inl g)), (a22, .inl (cI, 58, .inl sf))] := hD
  have hS : va_S A s.heap H locs := hS
  have hl : lv_has ls 2 [(1, .int (nI i)), (0, .ref h0)] := hl
  refine lv_iload_n hx hb dX9_keepMachine_2 rfl (lv_at hl 0 rfl) ?_
  refine lv_bipush (v := 58) hx hb dX9_keepMachine_3 (by decide) ?_
  refine gy_ge (a := i) (b := 58) (tgt := 26) hx hb (by omega) (by omega) dX9_keepMachine_5 (by decide) (fun c_1 => ?_) (fun c_1 => ?_)
  · exact gx_vret (w' := [(h0, .inr (9, [v0, v1, v2, v3, v4, v5, v6, v7, v8, v9, v10, v11, v12, v13, v14, v15, v16, v17, v18, v19, v20, v21, .ref a22, .ref a23, v24, v25, v26, v27, v28, v29, v30, v31, v32, v33, v34, v35, v36, v37, v38, v39, v40, v41, v42, v43, v44, v45, v46, v47, v48, v49, v50, v51])), (a23, .inl (cI, 58, .inl g)), (a22, .inl (cI, 58, .inl sf))]) hx hb hr hlk hK hP hD hS (Nat.le_of_ble_eq_true rfl) (Nat.le_of_ble_eq_true rfl) dX9_keepMachine_26 ⟨g, (fun j h => hi2_1 j (by omega)), rfl⟩
  · refine lv_aload_n hx hb dX9_keepMachine_8 rfl (lv_at hl 1 rfl) ?_
    refine va_get (D := D) (ci := 9) (v := .ref a23) (C := RX9) (T := TX9) (N := 52) hx hb hts (fun _ h => List.mem_cons_of_mem _ (List.mem_append_left _ (List.mem_append_right _ h))) hown hK hP 0 rfl rfl 23 (by decide) (hts (.fieldLink RX9 78 "LitmusHallModel" "machine" "[I") (by decide +kernel)) (fun _ h9 => h9) rfl dX9_keepMachine_9 ?_
    refine lv_iload_n hx hb dX9_keepMachine_12 rfl (lv_at hl 0 rfl) ?_
    refine lv_aload_n hx hb dX9_keepMachine_13 rfl (lv_at hl 1 rfl) ?_
    refine va_get (D := D) (ci := 9) (v := .ref a22) (C := RX9) (T := TX9) (N := 52) hx hb hts (fun _ h => List.mem_cons_of_mem _ (List.mem_append_left _ (List.mem_append_right _ h))) hown hK hP 0 rfl rfl 22 (by decide) (hts (.fieldLink RX9 75 "LitmusHallModel" "now" "[I") (by decide +kernel)) (fun _ h9 => h9) rfl dX9_keepMachine_14 ?_
    refine lv_iload_n hx hb dX9_keepMachine_17 rfl (lv_at hl 0 rfl) ?_
    refine gy_ild (i := i) hx hb hK hP 2 rfl (by omega) (by omega) dX9_keepMachine_18 ?_
    refine gy_ist (i := i) hx hb hK hP hD hS 1 rfl (by omega) (by omega) dX9_keepMachine_19 (fun H locs hP hD hS => ?_)
    have hP : va_P D vwCl [(h0, .inr (9, [v0, v1, v2, v3, v4, v5, v6, v7, v8, v9, v10, v11, v12, v13, v14, v15, v16, v17, v18, v19, v20, v21, .ref a22, .ref a23, v24, v25, v26, v27, v28, v29, v30, v31, v32, v33, v34, v35, v36, v37, v38, v39, v40, v41, v42, v43, v44, v45, v46, v47, v48, v49, v50, v51])), (a23, .inl (cI, 58, .inl (upd g i (sf i)))), (a22, .inl (cI, 58, .inl sf))] H := hP
    have hD : va_D A [(h0, .inr (9, [v0, v1, v2, v3, v4, v5, v6, v7, v8, v9, v10, v11, v12, v13, v14, v15, v16, v17, v18, v19, v20, v21, .ref a22, .ref a23, v24, v25, v26, v27, v28, v29, v30, v31, v32, v33, v34, v35, v36, v37, v38, v39, v40, v41, v42, v43, v44, v45, v46, v47, v48, v49, v50, v51])), (a23, .inl (cI, 58, .inl (upd g i (sf i)))), (a22, .inl (cI, 58, .inl sf))] := hD
    refine lv_iinc (v := nI (i + 1)) (lv' := [(1, .int (nI (i + 1))), (0, .ref h0)]) hx hb dX9_keepMachine_20 hl (k := 0) rfl (nI_add i 1) (by decide) rfl (fun ls hl => ?_)
    refine lv_goto (tgt := 2) hx hb dX9_keepMachine_23 (by decide) ?_
    exact ih2 ((i + 1), (upd g i (sf i))) H locs ls ⟨(by show (i + 1) ≤ 58; omega), (gy_cpl hi2_1), hP, hD, hS, lv_sub hl [0, 1] rfl⟩ (by show 58 - (i + 1) < 58 - i; omega)
def wsP_c_takeMachine9 : List Cond := .code yX9_takeMachine cX9_takeMachine 2 none :: (([.fieldLink RX9 75 "LitmusHallModel" "now" "[I", .fieldLink RX9 78 "LitmusHallModel" "machine" "[I"] ++ wsX90) ++ [])
theorem gW_c_takeMachine9 : wsP_c_takeMachine9.all goodWord = true := by unfold wsP_c_takeMachine9; exact gw_mk (by decide +kernel) rfl
set_option maxHeartbeats 4000000 in
set_option maxRecDepth 100000 in
theorem c_takeMachine9 (l : Launch) (D : va_G) (cI cB cZ : ClassId) (h0 : Nat) (a22 : Nat) (a23 : Nat) (v0 : Value) (v1 : Value) (v2 : Value) (v3 : Value) (v4 : Value) (v5 : Value) (v6 : Value) (v7 : Value) (v8 : Value) (v9 : Value) (v10 : Value) (v11 : Value) (v12 : Value) (v13 : Value) (v14 : Value) (v15 : Value) (v16 : Value) (v17 : Value) (v18 : Value) (v19 : Value) (v20 : Value) (v21 : Value) (v24 : Value) (v25 : Value) (v26 : Value) (v27 : Value) (v28 : Value) (v29 : Value) (v30 : Value) (v31 : Value) (v32 : Value) (v33 : Value) (v34 : Value) (v35 : Value) (v36 : Value) (v37 : Value) (v38 : Value) (v39 : Value) (v40 : Value) (v41 : Value) (v42 : Value) (v43 : Value) (v44 : Value) (v45 : Value) (v46 : Value) (v47 : Value) (v48 : Value) (v49 : Value) (v50 : Value) (v51 : Value) (df : Nat → Int32) (sf : Nat → Int32)  : gMv l yX9_takeMachine wsP_c_takeMachine9 ({ frames := 0, cells := 0, slots := 0, locals := 0 }) D cI cB cZ [] [.ref h0] [(h0, .inr (9, [v0, v1, v2, v3, v4, v5, v6, v7, v8, v9, v10, v11, v12, v13, v14, v15, v16, v17, v18, v19, v20, v21, .ref a22, .ref a23, v24, v25, v26, v27, v28, v29, v30, v31, v32, v33, v34, v35, v36, v37, v38, v39, v40, v41, v42, v43, v44, v45, v46, v47, v48, v49, v50, v51])), (a22, .inl (cI, 58, .inl df)), (a23, .inl (cI, 58, .inl sf))] (fun w9 => ∃ df9 : Nat → Int32, (∀ j, j < 58 → df9 j = sf j) ∧ w9 = [(h0, .inr (9, [v0, v1, v2, v3, v4, v5, v6, v7, v8, v9, v10, v11, v12, v13, v14, v15, v16, v17, v18, v19, v20, v21, .ref a22, .ref a23, v24, v25, v26, v27, v28, v29, v30, v31, v32, v33, v34, v35, v36, v37, v38, v39, v40, v41, v42, v43, v44, v45, v46, v47, v48, v49, v50, v51])), (a22, .inl (cI, 58, .inl df9)), (a23, .inl (cI, 58, .inl sf))]) := by
  refine gMv.of (cc := cX9_takeMachine) (maxL := 2) (ret := none) (by decide) rfl (Nat.le_of_ble_eq_true rfl) (fun p e s m below meth c A ls hx hb hr hlk hml hts hown hin hA hP hK hD hS hN hl => ?_)
  have hown : s.vm.findClass RX9 = some m.cls := hown
  have hl : lv_has ls 2 [(0, .ref h0)] := hl
  refine lv_iconst (v := 0) hx hb dX9_takeMachine_0 (by decide) ?_
  refine lv_istore_n (lv' := [(1, .int 0), (0, .ref h0)]) hx hb dX9_takeMachine_1 rfl hl (by decide) rfl (fun ls hl => ?_)
  refine gy_loop0 (I := fun (x9 : Nat × (Nat → Int32)) H locs ls => (x9.1 ≤ 58) ∧ (∀ j, j < x9.1 → x9.2 j = sf j) ∧ va_P D vwCl [(h0, .inr (9, [v0, v1, v2, v3, v4, v5, v6, v7, v8, v9, v10, v11, v12, v13, v14, v15, v16, v17, v18, v19, v20, v21, .ref a22, .ref a23, v24, v25, v26, v27, v28, v29, v30, v31, v32, v33, v34, v35, v36, v37, v38, v39, v40, v41, v42, v43, v44, v45, v46, v47, v48, v49, v50, v51])), (a22, .inl (cI, 58, .inl x9.2)), (a23, .inl (cI, 58, .inl sf))] H ∧ va_D A [(h0, .inr (9, [v0, v1, v2, v3, v4, v5, v6, v7, v8, v9, v10, v11, v12, v13, v14, v15, v16, v17, v18, v19, v20, v21, .ref a22, .ref a23, v24, v25, v26, v27, v28, v29, v30, v31, v32, v33, v34, v35, v36, v37, v38, v39, v40, v41, v42, v43, v44, v45, v46, v47, v48, v49, v50, v51])), (a22, .inl (cI, 58, .inl x9.2)), (a23, .inl (cI, 58, .inl sf))] ∧ va_S A s.heap H locs ∧ lv_has ls 2 [(1, .int (nI x9.1)), (0, .ref h0)]) (μ := fun (x9 : Nat × (Nat → Int32)) => 58 - x9.1) (fun x9 H locs ls hI ih2 => ?_) (0, df) ⟨(by show 0 ≤ 58; exact Nat.le_of_ble_eq_true rfl), (fun j h => absurd h (Nat.not_lt_zero j)), hP, hD, hS, lv_sub hl [0, 1] rfl⟩
  obtain ⟨i, g⟩ := x9
  obtain ⟨hi2_0, hi2_1, hP, hD, hS, hl⟩ := hI
  have hi2_0 : i ≤ 58 := hi2_0
  have hi2_1 : ∀ j, j < i → g j = sf j := hi2_1
  have hP : va_P D vwCl [(h0, .inr (9, [v0, v1, v2, v3, v4, v5, v6, v7, v8, v9, v10, v11, v12, v13, v14, v15, v16, v17, v18, v19, v20, v21, .ref a22, .ref a23, v24, v25, v26, v27, v28, v29, v30, v31, v32, v33, v34, v35, v36, v37, v38, v39, v40, v41, v42, v43, v44, v45, v46, v47, v48, v49, v50, v51])), (a22, .inl (cI, 58, .inl g)), (a23, .inl (cI, 58, .inl sf))] H := hP
  have hD : va_D A [(h0, .inr (9, [v0, v1, v2, v3, v4, v5, v6, v7, v8, v9, v10, v11, v12, v13, v14, v15, v16, v17, v18, v19, v20, v21, .ref a22, .ref a23, v24, v25, v26, v27, v28, v29, v30, v31, v32, v33, v34, v35, v36, v37, v38, v39, v40, v41, v42, v43, v44, v45, v46, v47, v48, v49, v50, v51])), (a22, .inl (cI, 58, .inl g)), (a23, .inl (cI, 58, .inl sf))] := hD
  have hS : va_S A s.heap H locs := hS
  have hl : lv_has ls 2 [(1, .int (nI i)), (0, .ref h0)] := hl
  refine lv_iload_n hx hb dX9_takeMachine_2 rfl (lv_at hl 0 rfl) ?_
  refine lv_bipush (v := 58) hx hb dX9_takeMachine_3 (by decide) ?_
  refine gy_ge (a := i) (b := 58) (tgt := 26) hx hb (by omega) (by omega) dX9_takeMachine_5 (by decide) (fun c_1 => ?_) (fun c_1 => ?_)
  · exact gx_vret (w' := [(h0, .inr (9, [v0, v1, v2, v3, v4, v5, v6, v7, v8, v9, v10, v11, v12, v13, v14, v15, v16, v17, v18, v19, v20, v21, .ref a22, .ref a23, v24, v25, v26, v27, v28, v29, v30, v31, v32, v33, v34, v35, v36, v37, v38, v39, v40, v41, v42, v43, v44, v45, v46, v47, v48, v49, v50, v51])), (a22, .inl (cI, 58, .inl g)), (a23, .inl (cI, 58, .inl sf))]) hx hb hr hlk hK hP hD hS (Nat.le_of_ble_eq_true rfl) (Nat.le_of_ble_eq_true rfl) dX9_takeMachine_26 ⟨g, (fun j h => hi2_1 j (by omega)), rfl⟩
  · refine lv_aload_n hx hb dX9_takeMachine_8 rfl (lv_at hl 1 rfl) ?_
    refine va_get (D := D) (ci := 9) (v := .ref a22) (C := RX9) (T := TX9) (N := 52) hx hb hts (fun _ h => List.mem_cons_of_mem _ (List.mem_append_left _ (List.mem_append_right _ h))) hown hK hP 0 rfl rfl 22 (by decide) (hts (.fieldLink RX9 75 "LitmusHallModel" "now" "[I") (by decide +kernel)) (fun _ h9 => h9) rfl dX9_takeMachine_9 ?_
    refine lv_iload_n hx hb dX9_takeMachine_12 rfl (lv_at hl 0 rfl) ?_
    refine lv_aload_n hx hb dX9_takeMachine_13 rfl (lv_at hl 1 rfl) ?_
    refine va_get (D := D) (ci := 9) (v := .ref a23) (C := RX9) (T := TX9) (N := 52) hx hb hts (fun _ h => List.mem_cons_of_mem _ (List.mem_append_left _ (List.mem_append_right _ h))) hown hK hP 0 rfl rfl 23 (by decide) (hts (.fieldLink RX9 78 "LitmusHallModel" "machine" "[I") (by decide +kernel)) (fun _ h9 => h9) rfl dX9_takeMachine_14 ?_
    refine lv_iload_n hx hb dX9_takeMachine_17 rfl (lv_at hl 0 rfl) ?_
    refine gy_ild (i := i) hx hb hK hP 2 rfl (by omega) (by omega) dX9_takeMachine_18 ?_
    refine gy_ist (i := i) hx hb hK hP hD hS 1 rfl (by omega) (by omega) dX9_takeMachine_19 (fun H locs hP hD hS => ?_)
    have hP : va_P D vwCl [(h0, .inr (9, [v0, v1, v2, v3, v4, v5, v6, v7, v8, v9, v10, v11, v12, v13, v14, v15, v16, v17, v18, v19, v20, v21, .ref a22, .ref a23, v24, v25, v26, v27, v28, v29, v30, v31, v32, v33, v34, v35, v36, v37, v38, v39, v40, v41, v42, v43, v44, v45, v46, v47, v48, v49, v50, v51])), (a22, .inl (cI, 58, .inl (upd g i (sf i)))), (a23, .inl (cI, 58, .inl sf))] H := hP
    have hD : va_D A [(h0, .inr (9, [v0, v1, v2, v3, v4, v5, v6, v7, v8, v9, v10, v11, v12, v13, v14, v15, v16, v17, v18, v19, v20, v21, .ref a22, .ref a23, v24, v25, v26, v27, v28, v29, v30, v31, v32, v33, v34, v35, v36, v37, v38, v39, v40, v41, v42, v43, v44, v45, v46, v47, v48, v49, v50, v51])), (a22, .inl (cI, 58, .inl (upd g i (sf i)))), (a23, .inl (cI, 58, .inl sf))] := hD
    refine lv_iinc (v := nI (i + 1)) (lv' := [(1, .int (nI (i + 1))), (0, .ref h0)]) hx hb dX9_takeMachine_20 hl (k := 0) rfl (nI_add i 1) (by decide) rfl (fun ls hl => ?_)
    refine lv_goto (tgt := 2) hx hb dX9_takeMachine_23 (by decide) ?_
    exact ih2 ((i + 1), (upd g i (sf i))) H locs ls ⟨(by show (i + 1) ≤ 58; omega), (gy_cpl hi2_1), hP, hD, hS, lv_sub hl [0, 1] rfl⟩ (by show 58 - (i + 1) < 58 - i; omega)