theorem dX7_forgetStored_0 : decode cX7_forgetStored 0 = .ok (.aload_n 0, 1) := by decide +kernel
theorem dX7_forgetStored_1 : decode cX7_forgetStored 1 = .ok (.getfield 11, 3) := by decide +kernel
theorem dX7_forgetStored_10 : decode cX7_forgetStored 10 = .ok (.ldc 93, 2) := by decide +kernel
theorem dX7_forgetStored_12 : decode cX7_forgetStored 12 = .ok (.iand, 1) := by decide +kernel
theorem dX7_forgetStored_13 : decode cX7_forgetStored 13 = .ok (.iastore, 1) := by decide +kernel
theorem dX7_forgetStored_14 : decode cX7_forgetStored 14 = .ok (.return_, 1) := by decide +kernel
theorem dX7_forgetStored_4 : decode cX7_forgetStored 4 = .ok (.bipush 13, 2) := by decide +kernel
theorem dX7_forgetStored_6 : decode cX7_forgetStored 6 = .ok (.iload_n 1, 1) := by decide +kernel
theorem dX7_forgetStored_7 : decode cX7_forgetStored 7 = .ok (.iadd, 1) := by decide +kernel
theorem dX7_forgetStored_8 : decode cX7_forgetStored 8 = .ok (.dup2, 1) := by decide +kernel
theorem dX7_forgetStored_9 : decode cX7_forgetStored 9 = .ok (.iaload, 1) := by decide +kernel
theorem dX7_isLocked_0 : decode cX7_isLocked 0 = .ok (.iload_n 0, 1) := by decide +kernel
theorem dX7_isLocked_1 : decode cX7_isLocked 1 = .ok (.iconst 5, 1) := by decide +kernel
theorem dX7_isLocked_11 : decode cX7_isLocked 11 = .ok (.iload_n 0, 1) := by decide +kernel
theorem dX7_isLocked_12 : decode cX7_isLocked 12 = .ok (.bipush 7, 2) := by decide +kernel
theorem dX7_isLocked_14 : decode cX7_isLocked 14 = .ok (.if_icmp .ne 7, 3) := by decide +kernel
theorem dX7_isLocked_17 : decode cX7_isLocked 17 = .ok (.iconst 1, 1) := by decide +kernel
theorem dX7_isLocked_18 : decode cX7_isLocked 18 = .ok (.goto 4, 3) := by decide +kernel
theorem dX7_isLocked_2 : decode cX7_isLocked 2 = .ok (.if_icmp .eq 15, 3) := by decide +kernel
theorem dX7_isLocked_21 : decode cX7_isLocked 21 = .ok (.iconst 0, 1) := by decide +kernel
theorem dX7_isLocked_22 : decode cX7_isLocked 22 = .ok (.ireturn, 1) := by decide +kernel
theorem dX7_isLocked_5 : decode cX7_isLocked 5 = .ok (.iload_n 0, 1) := by decide +kernel
theorem dX7_isLocked_6 : decode cX7_isLocked 6 = .ok (.bipush 6, 2) := by decide +kernel
theorem dX7_isLocked_8 : decode cX7_isLocked 8 = .ok (.if_icmp .eq 9, 3) := by decide +kernel
theorem dX7_put_0 : decode cX7_put 0 = .ok (.aload_n 0, 1) := by decide +kernel
theorem dX7_put_1 : decode cX7_put 1 = .ok (.iload_n 1, 1) := by decide +kernel
theorem dX7_put_10 : decode cX7_put 10 = .ok (.if_icmp .ne 62, 3) := by decide +kernel
theorem dX7_put_101 : decode cX7_put 101 = .ok (.iload_n 2, 1) := by decide +kernel
theorem dX7_put_102 : decode cX7_put 102 = .ok (.iadd, 1) := by decide +kernel
theorem dX7_put_103 : decode cX7_put 103 = .ok (.ishl, 1) := by decide +kernel
theorem dX7_put_104 : decode cX7_put 104 = .ok (.ior, 1) := by decide +kernel
theorem dX7_put_105 : decode cX7_put 105 = .ok (.iastore, 1) := by decide +kernel
theorem dX7_put_106 : decode cX7_put 106 = .ok (.return_, 1) := by decide +kernel
theorem dX7_put_13 : decode cX7_put 13 = .ok (.iload 5, 2) := by decide +kernel
theorem dX7_put_15 : decode cX7_put 15 = .ok (.bipush 6, 2) := by decide +kernel
theorem dX7_put_17 : decode cX7_put 17 = .ok (.if_icmp .ge 55, 3) := by decide +kernel
theorem dX7_put_2 : decode cX7_put 2 = .ok (.invokevirtual 39, 3) := by decide +kernel
theorem dX7_put_20 : decode cX7_put 20 = .ok (.aload_n 0, 1) := by decide +kernel
theorem dX7_put_21 : decode cX7_put 21 = .ok (.getfield 11, 3) := by decide +kernel
theorem dX7_put_24 : decode cX7_put 24 = .ok (.bipush 16, 2) := by decide +kernel
theorem dX7_put_26 : decode cX7_put 26 = .ok (.iload_n 1, 1) := by decide +kernel
theorem dX7_put_27 : decode cX7_put 27 = .ok (.bipush 6, 2) := by decide +kernel
theorem dX7_put_29 : decode cX7_put 29 = .ok (.imul, 1) := by decide +kernel
theorem dX7_put_30 : decode cX7_put 30 = .ok (.iadd, 1) := by decide +kernel
theorem dX7_put_31 : decode cX7_put 31 = .ok (.iload 5, 2) := by decide +kernel
theorem dX7_put_33 : decode cX7_put 33 = .ok (.iadd, 1) := by decide +kernel
theorem dX7_put_34 : decode cX7_put 34 = .ok (.iload_n 3, 1) := by decide +kernel
theorem dX7_put_35 : decode cX7_put 35 = .ok (.iastore, 1) := by decide +kernel
theorem dX7_put_36 : decode cX7_put 36 = .ok (.aload_n 0, 1) := by decide +kernel
theorem dX7_put_37 : decode cX7_put 37 = .ok (.getfield 11, 3) := by decide +kernel
theorem dX7_put_40 : decode cX7_put 40 = .ok (.bipush 13, 2) := by decide +kernel
theorem dX7_put_42 : decode cX7_put 42 = .ok (.iload_n 1, 1) := by decide +kernel
theorem dX7_put_43 : decode cX7_put 43 = .ok (.iadd, 1) := by decide +kernel
theorem dX7_put_44 : decode cX7_put 44 = .ok (.dup2, 1) := by decide +kernel
theorem dX7_put_45 : decode cX7_put 45 = .ok (.iaload, 1) := by decide +kernel
theorem dX7_put_46 : decode cX7_put 46 = .ok (.bipush 16, 2) := by decide +kernel
theorem dX7_put_48 : decode cX7_put 48 = .ok (.iadd, 1) := by decide +kernel
theorem dX7_put_49 : decode cX7_put 49 = .ok (.iastore, 1) := by decide +kernel
theorem dX7_put_5 : decode cX7_put 5 = .ok (.istore 5, 2) := by decide +kernel
theorem dX7_put_50 : decode cX7_put 50 = .ok (.aload_n 0, 1) := by decide +kernel
theorem dX7_put_51 : decode cX7_put 51 = .ok (.getfield 11, 3) := by decide +kernel
theorem dX7_put_54 : decode cX7_put 54 = .ok (.bipush 13, 2) := by decide +kernel
theorem dX7_put_56 : decode cX7_put 56 = .ok (.iload_n 1, 1) := by decide +kernel
theorem dX7_put_57 : decode cX7_put 57 = .ok (.iadd, 1) := by decide +kernel
theorem dX7_put_58 : decode cX7_put 58 = .ok (.dup2, 1) := by decide +kernel
theorem dX7_put_59 : decode cX7_put 59 = .ok (.iaload, 1) := by decide +kernel
theorem dX7_put_60 : decode cX7_put 60 = .ok (.iload_n 2, 1) := by decide +kernel
theorem dX7_put_61 : decode cX7_put 61 = .ok (.bipush 7, 2) := by decide +kernel
theorem dX7_put_63 : decode cX7_put 63 = .ok (.iconst 2, 1) := by decide +kernel
theorem dX7_put_64 : decode cX7_put 64 = .ok (.iload 5, 2) := by decide +kernel
theorem dX7_put_66 : decode cX7_put 66 = .ok (.imul, 1) := by decide +kernel
theorem dX7_put_67 : decode cX7_put 67 = .ok (.iadd, 1) := by decide +kernel
theorem dX7_put_68 : decode cX7_put 68 = .ok (.ishl, 1) := by decide +kernel
theorem dX7_put_69 : decode cX7_put 69 = .ok (.ior, 1) := by decide +kernel
theorem dX7_put_7 : decode cX7_put 7 = .ok (.iload 4, 2) := by decide +kernel
theorem dX7_put_70 : decode cX7_put 70 = .ok (.iastore, 1) := by decide +kernel
theorem dX7_put_71 : decode cX7_put 71 = .ok (.return_, 1) := by decide +kernel
theorem dX7_put_72 : decode cX7_put 72 = .ok (.aload_n 0, 1) := by decide +kernel
theorem dX7_put_73 : decode cX7_put 73 = .ok (.getfield 11, 3) := by decide +kernel
theorem dX7_put_76 : decode cX7_put 76 = .ok (.bipush 9, 2) := by decide +kernel
theorem dX7_put_78 : decode cX7_put 78 = .ok (.iload_n 2, 1) := by decide +kernel
theorem dX7_put_79 : decode cX7_put 79 = .ok (.iadd, 1) := by decide +kernel
theorem dX7_put_80 : decode cX7_put 80 = .ok (.iload_n 3, 1) := by decide +kernel
theorem dX7_put_81 : decode cX7_put 81 = .ok (.iastore, 1) := by decide +kernel
theorem dX7_put_82 : decode cX7_put 82 = .ok (.iload 4, 2) := by decide +kernel
theorem dX7_put_84 : decode cX7_put 84 = .ok (.iconst 2, 1) := by decide +kernel
theorem dX7_put_85 : decode cX7_put 85 = .ok (.if_icmp .ne 21, 3) := by decide +kernel
theorem dX7_put_88 : decode cX7_put 88 = .ok (.aload_n 0, 1) := by decide +kernel
theorem dX7_put_89 : decode cX7_put 89 = .ok (.getfield 11, 3) := by decide +kernel
theorem dX7_put_9 : decode cX7_put 9 = .ok (.iconst 1, 1) := by decide +kernel
theorem dX7_put_92 : decode cX7_put 92 = .ok (.bipush 13, 2) := by decide +kernel
theorem dX7_put_94 : decode cX7_put 94 = .ok (.iload_n 1, 1) := by decide +kernel
theorem dX7_put_95 : decode cX7_put 95 = .ok (.iadd, 1) := by decide +kernel
theorem dX7_put_96 : decode cX7_put 96 = .ok (.dup2, 1) := by decide +kernel
theorem dX7_put_97 : decode cX7_put 97 = .ok (.iaload, 1) := by decide +kernel
theorem dX7_put_98 : decode cX7_put 98 = .ok (.iconst 1, 1) := by decide +kernel
theorem dX7_put_99 : decode cX7_put 99 = .ok (.bipush 19, 2) := by decide +kernel
theorem dX7_seen_0 : decode cX7_seen 0 = .ok (.aload_n 0, 1) := by decide +kernel
theorem dX7_seen_1 : decode cX7_seen 1 = .ok (.iload_n 1, 1) := by decide +kernel
theorem dX7_seen_12 : decode cX7_seen 12 = .ok (.aload_n 0, 1) := by decide +kernel
theorem dX7_seen_13 : decode cX7_seen 13 = .ok (.iload_n 1, 1) := by decide +kernel
theorem dX7_seen_14 : decode cX7_seen 14 = .ok (.iload_n 3, 1) := by decide +kernel
theorem dX7_seen_15 : decode cX7_seen 15 = .ok (.invokevirtual 86, 3) := by decide +kernel
theorem dX7_seen_18 : decode cX7_seen 18 = .ok (.iload_n 2, 1) := by decide +kernel
theorem dX7_seen_19 : decode cX7_seen 19 = .ok (.if_icmp .ne 10, 3) := by decide +kernel
theorem dX7_seen_2 : decode cX7_seen 2 = .ok (.invokevirtual 39, 3) := by decide +kernel
theorem dX7_seen_22 : decode cX7_seen 22 = .ok (.aload_n 0, 1) := by decide +kernel
theorem dX7_seen_23 : decode cX7_seen 23 = .ok (.iload_n 1, 1) := by decide +kernel
theorem dX7_seen_24 : decode cX7_seen 24 = .ok (.iload_n 3, 1) := by decide +kernel
theorem dX7_seen_25 : decode cX7_seen 25 = .ok (.invokevirtual 90, 3) := by decide +kernel
theorem dX7_seen_28 : decode cX7_seen 28 = .ok (.ireturn, 1) := by decide +kernel
theorem dX7_seen_29 : decode cX7_seen 29 = .ok (.iinc 3 (-1), 3) := by decide +kernel
theorem dX7_seen_32 : decode cX7_seen 32 = .ok (.goto (-24), 3) := by decide +kernel
theorem dX7_seen_35 : decode cX7_seen 35 = .ok (.aload_n 0, 1) := by decide +kernel
theorem dX7_seen_36 : decode cX7_seen 36 = .ok (.getfield 11, 3) := by decide +kernel
theorem dX7_seen_39 : decode cX7_seen 39 = .ok (.bipush 9, 2) := by decide +kernel
theorem dX7_seen_41 : decode cX7_seen 41 = .ok (.iload_n 2, 1) := by decide +kernel
theorem dX7_seen_42 : decode cX7_seen 42 = .ok (.iadd, 1) := by decide +kernel
theorem dX7_seen_43 : decode cX7_seen 43 = .ok (.iaload, 1) := by decide +kernel
theorem dX7_seen_44 : decode cX7_seen 44 = .ok (.ireturn, 1) := by decide +kernel
theorem dX7_seen_5 : decode cX7_seen 5 = .ok (.iconst 1, 1) := by decide +kernel
theorem dX7_seen_6 : decode cX7_seen 6 = .ok (.isub, 1) := by decide +kernel
theorem dX7_seen_7 : decode cX7_seen 7 = .ok (.istore_n 3, 1) := by decide +kernel
theorem dX7_seen_8 : decode cX7_seen 8 = .ok (.iload_n 3, 1) := by decide +kernel
theorem dX7_seen_9 : decode cX7_seen 9 = .ok (.ifCond .lt 26, 3) := by decide +kernel
theorem dX7_valueOf_0 : decode cX7_valueOf 0 = .ok (.aload_n 1, 1) := by decide +kernel
theorem dX7_valueOf_1 : decode cX7_valueOf 1 = .ok (.iload_n 2, 1) := by decide +kernel
theorem dX7_valueOf_11 : decode cX7_valueOf 11 = .ok (.aload_n 1, 1) := by decide +kernel
theorem dX7_valueOf_12 : decode cX7_valueOf 12 = .ok (.iload_n 2, 1) := by decide +kernel
theorem dX7_valueOf_13 : decode cX7_valueOf 13 = .ok (.iconst 1, 1) := by decide +kernel
theorem dX7_valueOf_14 : decode cX7_valueOf 14 = .ok (.iadd, 1) := by decide +kernel
theorem dX7_valueOf_15 : decode cX7_valueOf 15 = .ok (.iaload, 1) := by decide +kernel
theorem dX7_valueOf_16 : decode cX7_valueOf 16 = .ok (.goto 14, 3) := by decide +kernel
theorem dX7_valueOf_19 : decode cX7_valueOf 19 = .ok (.aload_n 0, 1) := by decide +kernel
theorem dX7_valueOf_2 : decode cX7_valueOf 2 = .ok (.iaload, 1) := by decide +kernel
theorem dX7_valueOf_20 : decode cX7_valueOf 20 = .ok (.getfield 11, 3) := by decide +kernel
theorem dX7_valueOf_23 : decode cX7_valueOf 23 = .ok (.iload_n 3, 1) := by decide +kernel
theorem dX7_valueOf_24 : decode cX7_valueOf 24 = .ok (.iconst 3, 1) := by decide +kernel
theorem dX7_valueOf_25 : decode cX7_valueOf 25 = .ok (.imul, 1) := by decide +kernel
theorem dX7_valueOf_26 : decode cX7_valueOf 26 = .ok (.iload 4, 2) := by decide +kernel
theorem dX7_valueOf_28 : decode cX7_valueOf 28 = .ok (.iadd, 1) := by decide +kernel
theorem dX7_valueOf_29 : decode cX7_valueOf 29 = .ok (.iaload, 1) := by decide +kernel
theorem dX7_valueOf_3 : decode cX7_valueOf 3 = .ok (.istore 4, 2) := by decide +kernel
theorem dX7_valueOf_30 : decode cX7_valueOf 30 = .ok (.ireturn, 1) := by decide +kernel
theorem dX7_valueOf_5 : decode cX7_valueOf 5 = .ok (.iload 4, 2) := by decide +kernel
theorem dX7_valueOf_7 : decode cX7_valueOf 7 = .ok (.iconst (-1), 1) := by decide +kernel
theorem dX7_valueOf_8 : decode cX7_valueOf 8 = .ok (.if_icmp .ne 11, 3) := by decide +kernel
theorem dX7_waits_0 : decode cX7_waits 0 = .ok (.iload_n 0, 1) := by decide +kernel
theorem dX7_waits_1 : decode cX7_waits 1 = .ok (.iconst 4, 1) := by decide +kernel
theorem dX7_waits_12 : decode cX7_waits 12 = .ok (.iconst 1, 1) := by decide +kernel
theorem dX7_waits_13 : decode cX7_waits 13 = .ok (.goto 4, 3) := by decide +kernel
theorem dX7_waits_16 : decode cX7_waits 16 = .ok (.iconst 0, 1) := by decide +kernel
theorem dX7_waits_17 : decode cX7_waits 17 = .ok (.ireturn, 1) := by decide +kernel
theorem dX7_waits_2 : decode cX7_waits 2 = .ok (.if_icmp .eq 10, 3) := by decide +kernel
theorem dX7_waits_5 : decode cX7_waits 5 = .ok (.iload_n 0, 1) := by decide +kernel
theorem dX7_waits_6 : decode cX7_waits 6 = .ok (.invokestatic 54, 3) := by decide +kernel
theorem dX7_waits_9 : decode cX7_waits 9 = .ok (.ifCond .eq 7, 3) := by decide +kernel
def wsP_c_isLocked : List Cond := .code yX7_isLocked cX7_isLocked 1 (some .boolean) :: ([])
set_option maxHeartbeats 4000000 in
set_option maxRecDepth 100000 in
theorem c_isLocked (l : Launch) (D : va_G) (cI cB cZ : ClassId) (x : Int32)  : gMi l yX7_isLocked wsP_c_isLocked ({ frames := 0, cells := 0, slots := 0, locals := 0 }) D cI cB cZ [] [.int x] [] (fun r9 w9 => ∃ z : Int32, (z = 0 ∨ z = 1) ∧ r9 = z ∧ w9 = []) := by
  refine gMi.of (cc := cX7_isLocked) (maxL := 1) (ret := (some .boolean)) (by decide) rfl (Nat.le_of_ble_eq_true rfl) (fun p e s m below meth c A ls hx hb hr hlk hml hts hown hin hA hP hK hD hS hN hl => ?_)
  have hown : s.vm.findClass RX7 = some m.cls := hown
  have hl : lv_has ls 1 [(0, .int x)] := hl
  refine lv_iload_n hx hb dX7_isLocked_0 rfl (lv_at hl 0 rfl) ?_
  refine lv_iconst (v := 5) hx hb dX7_isLocked_1 (by decide) ?_
  refine lv_icmp_eq (tgt := 17) hx hb dX7_isLocked_2 (by decide) (fun c_1 => ?_) (fun c_1 => ?_)
  · refine lv_iconst (v := 1) hx hb dX7_isLocked_17 (by decide) ?_
    refine lv_goto (tgt := 22) hx hb dX7_isLocked_18 (by decide) ?_
    exact gx_zret (w' := []) hx hb hr hlk hK hP hD hS (Nat.le_of_ble_eq_true rfl) (Nat.le_of_ble_eq_true rfl) dX7_isLocked_22 rfl ⟨1, (by decide), rfl, rfl⟩
  · refine lv_iload_n hx hb dX7_isLocked_5 rfl (lv_at hl 0 rfl) ?_
    refine lv_bipush (v := 6) hx hb dX7_isLocked_6 (by decide) ?_
    refine lv_icmp_eq (tgt := 17) hx hb dX7_isLocked_8 (by decide) (fun c_2 => ?_) (fun c_2 => ?_)
    · refine lv_iconst (v := 1) hx hb dX7_isLocked_17 (by decide) ?_
      refine lv_goto (tgt := 22) hx hb dX7_isLocked_18 (by decide) ?_
      exact gx_zret (w' := []) hx hb hr hlk hK hP hD hS (Nat.le_of_ble_eq_true rfl) (Nat.le_of_ble_eq_true rfl) dX7_isLocked_22 rfl ⟨1, (by decide), rfl, rfl⟩
    · refine lv_iload_n hx hb dX7_isLocked_11 rfl (lv_at hl 0 rfl) ?_
      refine lv_bipush (v := 7) hx hb dX7_isLocked_12 (by decide) ?_
      refine lv_icmp_ne (tgt := 21) hx hb dX7_isLocked_14 (by decide) (fun c_3 => ?_) (fun c_3 => ?_)
      · refine lv_iconst (v := 0) hx hb dX7_isLocked_21 (by decide) ?_
        exact gx_zret (w' := []) hx hb hr hlk hK hP hD hS (Nat.le_of_ble_eq_true rfl) (Nat.le_of_ble_eq_true rfl) dX7_isLocked_22 rfl ⟨0, (by decide), rfl, rfl⟩
      · refine lv_iconst (v := 1) hx hb dX7_isLocked_17 (by decide) ?_
        refine lv_goto (tgt := 22) hx hb dX7_isLocked_18 (by decide) ?_
        exact gx_zret (w' := []) hx hb hr hlk hK hP hD hS (Nat.le_of_ble_eq_true rfl) (Nat.le_of_ble_eq_true rfl) dX7_isLocked_22 rfl ⟨1, (by decide), rfl, rfl⟩
def wsP_c_waits : List Cond := .code yX7_waits cX7_waits 1 (some .boolean) :: ([.methodLink RX7 54 yX7_isLocked, .static yX7_isLocked, .initialized RX7, .code yX7_isLocked cX7_isLocked 1 (some .boolean)])
set_option maxRecDepth 20000 in
theorem gP_c_waits__c_isLocked : GoodIn wsP_c_waits (va_wsS RX7 54 yX7_isLocked wsP_c_isLocked) := goodIn_r _ [1, 2, 3, 4] (by decide +kernel) (by decide +kernel)
set_option maxHeartbeats 4000000 in
set_option maxRecDepth 100000 in
theorem c_waits (l : Launch) (D : va_G) (cI cB cZ : ClassId) (x : Int32)  : gMi l yX7_waits wsP_c_waits ({ frames := 1, cells := 0, slots := 0, locals := 20 }) D cI cB cZ [] [.int x] [] (fun r9 w9 => ∃ z : Int32, (z = 0 ∨ z = 1) ∧ r9 = z ∧ w9 = []) := by
  refine gMi.of (cc := cX7_waits) (maxL := 1) (ret := (some .boolean)) (by decide) rfl (Nat.le_of_ble_eq_true rfl) (fun p e s m below meth c A ls hx hb hr hlk hml hts hown hin hA hP hK hD hS hN hl => ?_)
  have hown : s.vm.findClass RX7 = some m.cls := hown
  have hl : lv_has ls 1 [(0, .int x)] := hl
  refine lv_iload_n hx hb dX7_waits_0 rfl (lv_at hl 0 rfl) ?_
  refine lv_iconst (v := 4) hx hb dX7_waits_1 (by decide) ?_
  refine lv_icmp_eq (tgt := 12) hx hb dX7_waits_2 (by decide) (fun c_1 => ?_) (fun c_1 => ?_)
  · refine lv_iconst (v := 1) hx hb dX7_waits_12 (by decide) ?_
    refine lv_goto (tgt := 17) hx hb dX7_waits_13 (by decide) ?_
    exact gx_zret (w' := []) hx hb hr hlk hK hP hD hS (Nat.le_of_ble_eq_true rfl) (Nat.le_of_ble_eq_true rfl) dX7_waits_17 rfl ⟨1, (by decide), rfl, rfl⟩
  · refine lv_iload_n hx hb dX7_waits_5 rfl (lv_at hl 0 rfl) ?_
    refine gx_goi (wc := []) (wr := []) (va_runS (As := [.int x]) (rest := []) ⟨hx, hb, hml, hown, hts⟩ (c_isLocked l D cI cB cZ x _) (va_cwS 1 hts gP_c_waits__c_isLocked rfl rfl rfl (by decide +kernel) ⟨Nat.le_of_ble_eq_true rfl, Nat.le_of_ble_eq_true rfl⟩) (gx_preS hK gN.nil hP hD [] rfl rfl) rfl rfl hl.1 rfl (lv_room (Nat.le_of_ble_eq_true rfl)) dX7_waits_6 ⟨Nat.le_of_ble_eq_true rfl, Nat.le_of_ble_eq_true rfl⟩) hP hD hS hA [] [] rfl rfl rfl (by decide) (fun r1 w1 H locs hp hP hD hS => ?_)
    obtain ⟨e_2, hq_3, h9, rfl⟩ := hp
    have h9 := h9.symm
    subst h9
    have hq_3 : e_2 = 0 ∨ e_2 = 1 := hq_3
    have hP : va_P D vwCl [] H := hP
    have hD : va_D A [] := hD
    refine lv_if_eq (tgt := 16) hx hb dX7_waits_9 (by decide) (fun c_4 => ?_) (fun c_4 => ?_)
    · refine lv_iconst (v := 0) hx hb dX7_waits_16 (by decide) ?_
      exact gx_zret (w' := []) hx hb hr hlk hK hP hD hS (Nat.le_of_ble_eq_true rfl) (Nat.le_of_ble_eq_true rfl) dX7_waits_17 rfl ⟨0, (by decide), rfl, rfl⟩
    · refine lv_iconst (v := 1) hx hb dX7_waits_12 (by decide) ?_
      refine lv_goto (tgt := 17) hx hb dX7_waits_13 (by decide) ?_
      exact gx_zret (w' := []) hx hb hr hlk hK hP hD hS (Nat.le_of_ble_eq_true rfl) (Nat.le_of_ble_eq_true rfl) dX7_waits_17 rfl ⟨1, (by decide), rfl, rfl⟩
def wsP_c_forgetStored : List Cond := .code yX7_forgetStored cX7_forgetStored 2 none :: ([.fieldLink RX7 11 "LitmusHall$State" "words" "[I", .constant RX7 93 (-7864321)] ++ wsX70)
set_option maxHeartbeats 4000000 in
set_option maxRecDepth 100000 in
theorem c_forgetStored (l : Launch) (D : va_G) (cI cB cZ : ClassId) (h0 : Nat) (a1 : Nat) (f : Nat → Int32) (k : Nat) (hk : k < 3) (hW : gOkW f) : gMv l yX7_forgetStored wsP_c_forgetStored ({ frames := 0, cells := 0, slots := 0, locals := 0 }) D cI cB cZ [] [.ref h0, .int (nI k)] [(h0, .inr (7, [.ref a1])), (a1, .inl (cI, 34, .inl f))] (fun w9 => ∃ g : Nat → Int32, (gOkW g) ∧ w9 = [(h0, .inr (7, [.ref a1])), (a1, .inl (cI, 34, .inl g))]) := by
  refine gMv.of (cc := cX7_forgetStored) (maxL := 2) (ret := none) (by decide) rfl (Nat.le_of_ble_eq_true rfl) (fun p e s m below meth c A ls hx hb hr hlk hml hts hown hin hA hP hK hD hS hN hl => ?_)
  have hown : s.vm.findClass RX7 = some m.cls := hown
  have hl : lv_has ls 2 [(0, .ref h0), (1, .int (nI k))] := hl
  refine lv_aload_n hx hb dX7_forgetStored_0 rfl (lv_at hl 0 rfl) ?_
  refine va_get (D := D) (ci := 7) (v := .ref a1) (C := RX7) (T := TX7) (N := 1) hx hb hts (fun _ h => List.mem_cons_of_mem _ (List.mem_append_right _ h)) hown hK hP 0 rfl rfl 0 (by decide) (hts (.fieldLink RX7 11 "LitmusHall$State" "words" "[I") (by decide +kernel)) (fun _ h9 => h9) rfl dX7_forgetStored_1 ?_
  refine lv_bipush (v := 13) hx hb dX7_forgetStored_4 (by decide) ?_
  refine lv_iload_n hx hb dX7_forgetStored_6 rfl (lv_at hl 1 rfl) ?_
  refine lv_iadd hx hb dX7_forgetStored_7 ?_
  refine gx_top (y := nI (13 + k)) (nI_add 13 k) ?_
  refine lv_dup2_11 hx hb dX7_forgetStored_8 rfl rfl ?_
  refine gy_ild (i := (13 + k)) hx hb hK hP 1 rfl (by omega) (by omega) dX7_forgetStored_9 ?_
  refine lv_ldc hx hb hown (hts (.constant RX7 93 (-7864321)) (by decide +kernel)) dX7_forgetStored_10 ?_
  refine lv_iand hx hb dX7_forgetStored_12 ?_
  refine gy_ist (i := (13 + k)) hx hb hK hP hD hS 1 rfl (by omega) (by omega) dX7_forgetStored_13 (fun H locs hP hD hS => ?_)
  have hP : va_P D vwCl [(h0, .inr (7, [.ref a1])), (a1, .inl (cI, 34, .inl (upd f (13 + k) ((f (13 + k)) &&& (-7864321)))))] H := hP
  have hD : va_D A [(h0, .inr (7, [.ref a1])), (a1, .inl (cI, 34, .inl (upd f (13 + k) ((f (13 + k)) &&& (-7864321)))))] := hD
  exact gx_vret (w' := [(h0, .inr (7, [.ref a1])), (a1, .inl (cI, 34, .inl (upd f (13 + k) ((f (13 + k)) &&& (-7864321)))))]) hx hb hr hlk hK hP hD hS (Nat.le_of_ble_eq_true rfl) (Nat.le_of_ble_eq_true rfl) dX7_forgetStored_14 ⟨(upd f (13 + k) ((f (13 + k)) &&& (-7864321))), (gOkW_in' hW (by rw [gLo_mask _ _ (by decide)]; exact gOkW_lo hW hk)), rfl⟩
def wsP_c_valueOf : List Cond := .code yX7_valueOf cX7_valueOf 5 (some .int) :: ([.fieldLink RX7 11 "LitmusHall$State" "words" "[I"] ++ wsX70)
set_option maxHeartbeats 4000000 in
set_option maxRecDepth 100000 in
theorem c_valueOf (l : Launch) (D : va_G) (cI cB cZ : ClassId) (h0 : Nat) (a1 : Nat) (f : Nat → Int32) (b3 : Nat) (pf : Nat → Int32) (val : Nat) (k : Nat) (hv : val < 191) (hk : k < 3) (hreg : pf val = (-1) ∨ ∃ r, r < 3 ∧ pf val = nI r) : gMi l yX7_valueOf wsP_c_valueOf ({ frames := 0, cells := 0, slots := 0, locals := 0 }) D cI cB cZ [] [.ref h0, .ref b3, .int (nI val), .int (nI k)] [(h0, .inr (7, [.ref a1])), (a1, .inl (cI, 34, .inl f)), (b3, .inl (cI, 192, .inl pf))] (fun r9 w9 => ∃ z : Int32, r9 = z ∧ w9 = [(h0, .inr (7, [.ref a1])), (a1, .inl (cI, 34, .inl f)), (b3, .inl (cI, 192, .inl pf))]) := by
  refine gMi.of (cc := cX7_valueOf) (maxL := 5) (ret := (some .int)) (by decide) rfl (Nat.le_of_ble_eq_true rfl) (fun p e s m below meth c A ls hx hb hr hlk hml hts hown hin hA hP hK hD hS hN hl => ?_)
  have hown : s.vm.findClass RX7 = some m.cls := hown
  have hl : lv_has ls 5 [(0, .ref h0), (1, .ref b3), (2, .int (nI val)), (3, .int (nI k))] := hl
  refine lv_aload_n hx hb dX7_valueOf_0 rfl (lv_at hl 1 rfl) ?_
  refine lv_iload_n hx hb dX7_valueOf_1 rfl (lv_at hl 2 rfl) ?_
  refine gy_ild (i := val) hx hb hK hP 2 rfl (by omega) (by omega) dX7_valueOf_2 ?_
  refine lv_istore (lv' := [(4, .int (pf val)), (0, .ref h0), (1, .ref b3), (2, .int (nI val)), (3, .int (nI k))]) hx hb dX7_valueOf_3 hl (by decide) rfl (fun ls hl => ?_)
  refine lv_iload hx hb dX7_valueOf_5 (lv_at hl 0 rfl) ?_
  refine lv_iconst (v := (-1)) hx hb dX7_valueOf_7 (by decide) ?_
  refine lv_icmp_ne (tgt := 19) hx hb dX7_valueOf_8 (by decide) (fun c_1 => ?_) (fun c_1 => ?_)
  · obtain ⟨r, hr3, er⟩ := hreg.resolve_left c_1
    refine lv_aload_n hx hb dX7_valueOf_19 rfl (lv_at hl 1 rfl) ?_
    refine va_get (D := D) (ci := 7) (v := .ref a1) (C := RX7) (T := TX7) (N := 1) hx hb hts (fun _ h => List.mem_cons_of_mem _ (List.mem_append_right _ h)) hown hK hP 0 rfl rfl 0 (by decide) (hts (.fieldLink RX7 11 "LitmusHall$State" "words" "[I") (by decide +kernel)) (fun _ h9 => h9) rfl dX7_valueOf_20 ?_
    refine lv_iload_n hx hb dX7_valueOf_23 rfl (lv_at hl 4 rfl) ?_
    refine lv_iconst (v := 3) hx hb dX7_valueOf_24 (by decide) ?_
    refine lv_imul hx hb dX7_valueOf_25 ?_
    refine gx_top (y := nI (k * 3)) (pk_mul k 3) ?_
    refine lv_iload hx hb dX7_valueOf_26 (lv_at hl 0 rfl) ?_
    refine gx_top (y := nI r) er ?_
    refine lv_iadd hx hb dX7_valueOf_28 ?_
    refine gx_top (y := nI ((k * 3) + r)) (nI_add (k * 3) r) ?_
    refine gy_ild (i := ((k * 3) + r)) hx hb hK hP 1 rfl (by omega) (by omega) dX7_valueOf_29 ?_
    exact gx_iret (w' := [(h0, .inr (7, [.ref a1])), (a1, .inl (cI, 34, .inl f)), (b3, .inl (cI, 192, .inl pf))]) hx hb hr hlk hK hP hD hS (Nat.le_of_ble_eq_true rfl) (Nat.le_of_ble_eq_true rfl) dX7_valueOf_30 ⟨(f ((k * 3) + r)), rfl, rfl⟩
  · refine lv_aload_n hx hb dX7_valueOf_11 rfl (lv_at hl 2 rfl) ?_
    refine lv_iload_n hx hb dX7_valueOf_12 rfl (lv_at hl 3 rfl) ?_
    refine lv_iconst (v := 1) hx hb dX7_valueOf_13 (by decide) ?_
    refine lv_iadd hx hb dX7_valueOf_14 ?_
    refine gx_top (y := nI (val + 1)) (nI_add val 1) ?_
    refine gy_ild (i := (val + 1)) hx hb hK hP 2 rfl (by omega) (by omega) dX7_valueOf_15 ?_
    refine lv_goto (tgt := 30) hx hb dX7_valueOf_16 (by decide) ?_
    exact gx_iret (w' := [(h0, .inr (7, [.ref a1])), (a1, .inl (cI, 34, .inl f)), (b3, .inl (cI, 192, .inl pf))]) hx hb hr hlk hK hP hD hS (Nat.le_of_ble_eq_true rfl) (Nat.le_of_ble_eq_true rfl) dX7_valueOf_30 ⟨(pf (val + 1)), rfl, rfl⟩
def wsP_c_seen : List Cond := .code yX7_seen cX7_seen 4 (some .int) :: ([.methodLink RX7 39 yX7_rowSize, .instanceMethod yX7_rowSize, .selects RX7 yX7_rowSize yX7_rowSize, .initialized RX7, .fieldLink RX7 11 "LitmusHall$State" "words" "[I", .code yX7_rowSize cX7_rowSize 2 (some .int), .methodLink RX7 86 yX7_rowCell, .instanceMethod yX7_rowCell, .selects RX7 yX7_rowCell yX7_rowCell, .code yX7_rowCell cX7_rowCell 3 (some .int), .methodLink RX7 90 yX7_rowInt, .instanceMethod yX7_rowInt, .selects RX7 yX7_rowInt yX7_rowInt, .code yX7_rowInt cX7_rowInt 3 (some .int)] ++ wsX70)
set_option maxRecDepth 20000 in
theorem gP_c_seen__c_rowSize : GoodIn wsP_c_seen (wsV RX7 39 RX7 yX7_rowSize wsP_c_rowSize) := goodIn_r _ [1, 2, 3, 4, 6, 5, 15] (by decide +kernel) (by decide +kernel)
set_option maxRecDepth 20000 in
theorem gP_c_seen__c_rowCell : GoodIn wsP_c_seen (wsV RX7 86 RX7 yX7_rowCell wsP_c_rowCell) := goodIn_r _ [7, 8, 9, 4, 10, 5, 15] (by decide +kernel) (by decide +kernel)
set_option maxRecDepth 20000 in
theorem gP_c_seen__c_rowInt : GoodIn wsP_c_seen (wsV RX7 90 RX7 yX7_rowInt wsP_c_rowInt) := goodIn_r _ [11, 12, 13, 4, 14, 5, 15] (by decide +kernel) (by decide +kernel)
set_option maxHeartbeats 4000000 in
set_option maxRecDepth 100000 in
theorem c_seen (l : Launch) (D : va_G) (cI cB cZ : ClassId) (h0 : Nat) (a1 : Nat) (f : Nat → Int32) (k : Nat) (x : Nat) (hk : k < 3) (hx0 : x < 4) (hW : gOkW f) : gMi l yX7_seen wsP_c_seen ({ frames := 1, cells := 0, slots := 0, locals := 22 }) D cI cB cZ [] [.ref h0, .int (nI k), .int (nI x)] [(h0, .inr (7, [.ref a1])), (a1, .inl (cI, 34, .inl f))] (fun r9 w9 => ∃ z : Int32, r9 = z ∧ w9 = [(h0, .inr (7, [.ref a1])), (a1, .inl (cI, 34, .inl f))]) := by
  refine gMi.of (cc := cX7_seen) (maxL := 4) (ret := (some .int)) (by decide) rfl (Nat.le_of_ble_eq_true rfl) (fun p e s m below meth c A ls hx hb hr hlk hml hts hown hin hA hP hK hD hS hN hl => ?_)
  have hown : s.vm.findClass RX7 = some m.cls := hown
  have hl : lv_has ls 4 [(0, .ref h0), (1, .int (nI k)), (2, .int (nI x))] := hl
  refine lv_aload_n hx hb dX7_seen_0 rfl (lv_at hl 0 rfl) ?_
  refine lv_iload_n hx hb dX7_seen_1 rfl (lv_at hl 1 rfl) ?_
  refine gx_goi (wc := [(h0, .inr (7, [.ref a1])), (a1, .inl (cI, 34, .inl f))]) (wr := []) (va_runV (As := [.int (nI k)]) (rest := []) ⟨hx, hb, hml, hown, hts⟩ (c_rowSize l D cI cB cZ h0 a1 f k (by omega) _) (cwV 1 hts gP_c_seen__c_rowSize rfl rfl rfl (by decide +kernel) ⟨Nat.le_of_ble_eq_true rfl, Nat.le_of_ble_eq_true rfl⟩) (gx_preV (ci := 7) (q0 := 0) hK gN.nil hP hD [0, 1] rfl rfl rfl rfl) rfl rfl hl.1 rfl (lv_room (Nat.le_of_ble_eq_true rfl)) dX7_seen_2 ⟨Nat.le_of_ble_eq_true rfl, Nat.le_of_ble_eq_true rfl⟩) hP hD hS hA [0, 1] [] rfl rfl rfl (by decide) (fun r1 w1 H locs hp hP hD hS => ?_)
  obtain ⟨h9, rfl⟩ := hp
  have h9 := h9.symm
  subst h9
  have hP : va_P D vwCl [(h0, .inr (7, [.ref a1])), (a1, .inl (cI, 34, .inl f))] H := hP
  have hD : va_D A [(h0, .inr (7, [.ref a1])), (a1, .inl (cI, 34, .inl f))] := hD
  have hsz := gSz_lt (f (13 + k))
  refine lv_iconst (v := 1) hx hb dX7_seen_5 (by decide) ?_
  refine lv_isub hx hb dX7_seen_6 ?_
  refine lv_istore_n (lv' := [(3, .int (nI (gSz (f (13 + k))) - 1)), (0, .ref h0), (1, .int (nI k)), (2, .int (nI x))]) hx hb dX7_seen_7 rfl hl (by decide) rfl (fun ls hl => ?_)
  refine gy_loop0 (I := fun (x9 : Nat) H locs ls => (x9 ≤ 6) ∧ va_P D vwCl [(h0, .inr (7, [.ref a1])), (a1, .inl (cI, 34, .inl f))] H ∧ va_D A [(h0, .inr (7, [.ref a1])), (a1, .inl (cI, 34, .inl f))] ∧ va_S A s.heap H locs ∧ lv_has ls 4 [(3, .int (nI x9 - 1)), (0, .ref h0), (1, .int (nI k)), (2, .int (nI x))]) (μ := fun (x9 : Nat) => x9) (fun x9 H locs ls hI ih8 => ?_) (gSz (f (13 + k))) ⟨(hW k hk), hP, hD, hS, lv_sub hl [0, 1, 2, 3] rfl⟩
  obtain ⟨i, rfl⟩ : ∃ z9, z9 = x9 := ⟨_, rfl⟩
  obtain ⟨hi8_0, hP, hD, hS, hl⟩ := hI
  have hi8_0 : i ≤ 6 := hi8_0
  have hP : va_P D vwCl [(h0, .inr (7, [.ref a1])), (a1, .inl (cI, 34, .inl f))] H := hP
  have hD : va_D A [(h0, .inr (7, [.ref a1])), (a1, .inl (cI, 34, .inl f))] := hD
  have hS : va_S A s.heap H locs := hS
  have hl : lv_has ls 4 [(3, .int (nI i - 1)), (0, .ref h0), (1, .int (nI k)), (2, .int (nI x))] := hl
  refine lv_iload_n hx hb dX7_seen_8 rfl (lv_at hl 0 rfl) ?_
  refine lv_if_lt (tgt := 35) hx hb dX7_seen_9 (by decide) (fun c_1 => ?_) (fun c_1 => ?_)
  · have c_1 : i = 0 := gy_m1z (by omega) c_1
    refine lv_aload_n hx hb dX7_seen_35 rfl (lv_at hl 1 rfl) ?_
    refine va_get (D := D) (ci := 7) (v := .ref a1) (C := RX7) (T := TX7) (N := 1) hx hb hts (fun _ h => List.mem_cons_of_mem _ (List.mem_append_right _ h)) hown hK hP 0 rfl rfl 0 (by decide) (hts (.fieldLink RX7 11 "LitmusHall$State" "words" "[I") (by decide +kernel)) (fun _ h9 => h9) rfl dX7_seen_36 ?_
    refine lv_bipush (v := 9) hx hb dX7_seen_39 (by decide) ?_
    refine lv_iload_n hx hb dX7_seen_41 rfl (lv_at hl 3 rfl) ?_
    refine lv_iadd hx hb dX7_seen_42 ?_
    refine gx_top (y := nI (9 + x)) (nI_add 9 x) ?_
    refine gy_ild (i := (9 + x)) hx hb hK hP 1 rfl (by omega) (by omega) dX7_seen_43 ?_
    exact gx_iret (w' := [(h0, .inr (7, [.ref a1])), (a1, .inl (cI, 34, .inl f))]) hx hb hr hlk hK hP hD hS (Nat.le_of_ble_eq_true rfl) (Nat.le_of_ble_eq_true rfl) dX7_seen_44 ⟨(f (9 + x)), rfl, rfl⟩
  · have c_1 : 0 < i := gy_m1p (by omega) c_1
    have em : nI i - 1 = nI (i - 1) := pk_sub (a := i) (b := 1) (by omega)
    rw [em] at hl
    have hl : lv_has ls 4 [(3, .int (nI (i - 1))), (0, .ref h0), (1, .int (nI k)), (2, .int (nI x))] := hl
    refine lv_aload_n hx hb dX7_seen_12 rfl (lv_at hl 1 rfl) ?_
    refine lv_iload_n hx hb dX7_seen_13 rfl (lv_at hl 2 rfl) ?_
    refine lv_iload_n hx hb dX7_seen_14 rfl (lv_at hl 0 rfl) ?_
    refine gx_goi (wc := [(h0, .inr (7, [.ref a1])), (a1, .inl (cI, 34, .inl f))]) (wr := []) (va_runV (As := [.int (nI k), .int (nI (i - 1))]) (rest := []) ⟨hx, hb, hml, hown, hts⟩ (c_rowCell l D cI cB cZ h0 a1 f k (i - 1) (by omega) _) (cwV 2 hts gP_c_seen__c_rowCell rfl rfl rfl (by decide +kernel) ⟨Nat.le_of_ble_eq_true rfl, Nat.le_of_ble_eq_true rfl⟩) (gx_preV (ci := 7) (q0 := 0) hK gN.nil hP hD [0, 1] rfl rfl rfl rfl) rfl rfl hl.1 rfl (lv_room (Nat.le_of_ble_eq_true rfl)) dX7_seen_15 ⟨Nat.le_of_ble_eq_true rfl, Nat.le_of_ble_eq_true rfl⟩) hP hD hS hA [0, 1] [] rfl rfl rfl (by decide) (fun r1 w1 H locs hp hP hD hS => ?_)
    obtain ⟨e_2, hq_3, h9, rfl⟩ := hp
    have h9 := h9.symm
    subst h9
    have hq_3 : e_2 < 4 := hq_3
    have hP : va_P D vwCl [(h0, .inr (7, [.ref a1])), (a1, .inl (cI, 34, .inl f))] H := hP
    have hD : va_D A [(h0, .inr (7, [.ref a1])), (a1, .inl (cI, 34, .inl f))] := hD
    refine lv_iload_n hx hb dX7_seen_18 rfl (lv_at hl 3 rfl) ?_
    refine gy_ne (a := e_2) (b := x) (tgt := 29) hx hb (by omega) (by omega) dX7_seen_19 (by decide) (fun c_4 => ?_) (fun c_4 => ?_)
    · refine lv_iinc (v := nI (i - 1) - 1) (lv' := [(3, .int (nI (i - 1) - 1)), (0, .ref h0), (1, .int (nI k)), (2, .int (nI x))]) hx hb dX7_seen_29 hl (k := 0) rfl (gy_dec (i - 1)) (by decide) rfl (fun ls hl => ?_)
      refine lv_goto (tgt := 8) hx hb dX7_seen_32 (by decide) ?_
      exact ih8 (i - 1) H locs ls ⟨(by omega), hP, hD, hS, lv_sub hl [0, 1, 2, 3] rfl⟩ (by show (i - 1) < i; omega)
    · refine lv_aload_n hx hb dX7_seen_22 rfl (lv_at hl 1 rfl) ?_
      refine lv_iload_n hx hb dX7_seen_23 rfl (lv_at hl 2 rfl) ?_
      refine lv_iload_n hx hb dX7_seen_24 rfl (lv_at hl 0 rfl) ?_
      refine gx_goi (wc := [(h0, .inr (7, [.ref a1])), (a1, .inl (cI, 34, .inl f))]) (wr := []) (va_runV (As := [.int (nI k), .int (nI (i - 1))]) (rest := []) ⟨hx, hb, hml, hown, hts⟩ (c_rowInt l D cI cB cZ h0 a1 f k (i - 1) (by omega) (by omega) _) (cwV 2 hts gP_c_seen__c_rowInt rfl rfl rfl (by decide +kernel) ⟨Nat.le_of_ble_eq_true rfl, Nat.le_of_ble_eq_true rfl⟩) (gx_preV (ci := 7) (q0 := 0) hK gN.nil hP hD [0, 1] rfl rfl rfl rfl) rfl rfl hl.1 rfl (lv_room (Nat.le_of_ble_eq_true rfl)) dX7_seen_25 ⟨Nat.le_of_ble_eq_true rfl, Nat.le_of_ble_eq_true rfl⟩) hP hD hS hA [0, 1] [] rfl rfl rfl (by decide) (fun r1 w1 H locs hp hP hD hS => ?_)
      obtain ⟨h9, rfl⟩ := hp
      have h9 := h9.symm
      subst h9
      have hP : va_P D vwCl [(h0, .inr (7, [.ref a1])), (a1, .inl (cI, 34, .inl f))] H := hP
      have hD : va_D A [(h0, .inr (7, [.ref a1])), (a1, .inl (cI, 34, .inl f))] := hD
      exact gx_iret (w' := [(h0, .inr (7, [.ref a1])), (a1, .inl (cI, 34, .inl f))]) hx hb hr hlk hK hP hD hS (Nat.le_of_ble_eq_true rfl) (Nat.le_of_ble_eq_true rfl) dX7_seen_28 ⟨(f ((16 + (k * 6)) + (i - 1))), rfl, rfl⟩
def wsP_c_put : List Cond := .code yX7_put cX7_put 6 none :: ([.methodLink RX7 39 yX7_rowSize, .instanceMethod yX7_rowSize, .selects RX7 yX7_rowSize yX7_rowSize, .initialized RX7, .fieldLink RX7 11 "LitmusHall$State" "words" "[I", .code yX7_rowSize cX7_rowSize 2 (some .int)] ++ wsX70)
set_option maxRecDepth 20000 in
theorem gP_c_put__c_rowSize : GoodIn wsP_c_put (wsV RX7 39 RX7 yX7_rowSize wsP_c_rowSize) := goodIn_r _ [1, 2, 3, 4, 6, 5, 7] (by decide +kernel) (by decide +kernel)
set_option maxHeartbeats 4000000 in
set_option maxRecDepth 100000 in
theorem c_put (l : Launch) (D : va_G) (cI cB cZ : ClassId) (h0 : Nat) (a1 : Nat) (f : Nat → Int32) (k : Nat) (x : Nat) (v : Int32) (mode : Int32) (hk : k < 3) (hx0 : x < 4) (hW : gOkW f) : gMv l yX7_put wsP_c_put ({ frames := 1, cells := 0, slots := 0, locals := 21 }) D cI cB cZ [] [.ref h0, .int (nI k), .int (nI x), .int v, .int mode] [(h0, .inr (7, [.ref a1])), (a1, .inl (cI, 34, .inl f))] (fun w9 => ∃ g : Nat → Int32, (gOkW g) ∧ w9 = [(h0, .inr (7, [.ref a1])), (a1, .inl (cI, 34, .inl g))]) := by
  refine gMv.of (cc := cX7_put) (maxL := 6) (ret := none) (by decide) rfl (Nat.le_of_ble_eq_true rfl) (fun p e s m below meth c A ls hx hb hr hlk hml hts hown hin hA hP hK hD hS hN hl => ?_)
  have hown : s.vm.findClass RX7 = some m.cls := hown
  have hl : lv_has ls 6 [(0, .ref h0), (1, .int (nI k)), (2, .int (nI x)), (3, .int v), (4, .int mode)] := hl
  refine lv_aload_n hx hb dX7_put_0 rfl (lv_at hl 0 rfl) ?_
  refine lv_iload_n hx hb dX7_put_1 rfl (lv_at hl 1 rfl) ?_
  refine gx_goi (wc := [(h0, .inr (7, [.ref a1])), (a1, .inl (cI, 34, .inl f))]) (wr := []) (va_runV (As := [.int (nI k)]) (rest := []) ⟨hx, hb, hml, hown, hts⟩ (c_rowSize l D cI cB cZ h0 a1 f k (by omega) _) (cwV 1 hts gP_c_put__c_rowSize rfl rfl rfl (by decide +kernel) ⟨Nat.le_of_ble_eq_true rfl, Nat.le_of_ble_eq_true rfl⟩) (gx_preV (ci := 7) (q0 := 0) hK gN.nil hP hD [0, 1] rfl rfl rfl rfl) rfl rfl hl.1 rfl (lv_room (Nat.le_of_ble_eq_true rfl)) dX7_put_2 ⟨Nat.le_of_ble_eq_true rfl, Nat.le_of_ble_eq_true rfl⟩) hP hD hS hA [0, 1] [] rfl rfl rfl (by decide) (fun r1 w1 H locs hp hP hD hS => ?_)
  obtain ⟨h9, rfl⟩ := hp
  have h9 := h9.symm
  subst h9
  have hP : va_P D vwCl [(h0, .inr (7, [.ref a1])), (a1, .inl (cI, 34, .inl f))] H := hP
  have hD : va_D A [(h0, .inr (7, [.ref a1])), (a1, .inl (cI, 34, .inl f))] := hD
  have hsz := gSz_lt (f (13 + k))
  refine lv_istore (lv' := [(5, .int (nI (gSz (f (13 + k))))), (0, .ref h0), (1, .int (nI k)), (2, .int (nI x)), (3, .int v), (4, .int mode)]) hx hb dX7_put_5 hl (by decide) rfl (fun ls hl => ?_)
  refine lv_iload hx hb dX7_put_7 (lv_at hl 5 rfl) ?_
  refine lv_iconst (v := 1) hx hb dX7_put_9 (by decide) ?_
  refine lv_icmp_ne (tgt := 72) hx hb dX7_put_10 (by decide) (fun c_1 => ?_) (fun c_1 => ?_)
  · refine lv_aload_n hx hb dX7_put_72 rfl (lv_at hl 1 rfl) ?_
    refine va_get (D := D) (ci := 7) (v := .ref a1) (C := RX7) (T := TX7) (N := 1) hx hb hts (fun _ h => List.mem_cons_of_mem _ (List.mem_append_right _ h)) hown hK hP 0 rfl rfl 0 (by decide) (hts (.fieldLink RX7 11 "LitmusHall$State" "words" "[I") (by decide +kernel)) (fun _ h9 => h9) rfl dX7_put_73 ?_
    refine lv_bipush (v := 9) hx hb dX7_put_76 (by decide) ?_
    refine lv_iload_n hx hb dX7_put_78 rfl (lv_at hl 3 rfl) ?_
    refine lv_iadd hx hb dX7_put_79 ?_
    refine gx_top (y := nI (9 + x)) (nI_add 9 x) ?_
    refine lv_iload_n hx hb dX7_put_80 rfl (lv_at hl 4 rfl) ?_
    refine gy_ist (i := (9 + x)) hx hb hK hP hD hS 1 rfl (by omega) (by omega) dX7_put_81 (fun H locs hP hD hS => ?_)
    have hP : va_P D vwCl [(h0, .inr (7, [.ref a1])), (a1, .inl (cI, 34, .inl (upd f (9 + x) v)))] H := hP
    have hD : va_D A [(h0, .inr (7, [.ref a1])), (a1, .inl (cI, 34, .inl (upd f (9 + x) v)))] := hD
    have hW1 := gOkW_out hW (i := 9 + x) (x := v) (by omega)
    refine lv_iload hx hb dX7_put_82 (lv_at hl 5 rfl) ?_
    refine lv_iconst (v := 2) hx hb dX7_put_84 (by decide) ?_
    refine lv_icmp_ne (tgt := 106) hx hb dX7_put_85 (by decide) (fun c_2 => ?_) (fun c_2 => ?_)
    · exact gx_vret (w' := [(h0, .inr (7, [.ref a1])), (a1, .inl (cI, 34, .inl (upd f (9 + x) v)))]) hx hb hr hlk hK hP hD hS (Nat.le_of_ble_eq_true rfl) (Nat.le_of_ble_eq_true rfl) dX7_put_106 ⟨(upd f (9 + x) v), (by first | exact hW1 | exact gOkW_in' hW1 (by rw [gLo_hi _ _ (gLo_shl _ _ (19 + x) (s_l (19 + x) (by omega)) (by omega))]; exact gOkW_lo hW1 hk)), rfl⟩
    · refine lv_aload_n hx hb dX7_put_88 rfl (lv_at hl 1 rfl) ?_
      refine va_get (D := D) (ci := 7) (v := .ref a1) (C := RX7) (T := TX7) (N := 1) hx hb hts (fun _ h => List.mem_cons_of_mem _ (List.mem_append_right _ h)) hown hK hP 0 rfl rfl 0 (by decide) (hts (.fieldLink RX7 11 "LitmusHall$State" "words" "[I") (by decide +kernel)) (fun _ h9 => h9) rfl dX7_put_89 ?_
      refine lv_bipush (v := 13) hx hb dX7_put_92 (by decide) ?_
      refine lv_iload_n hx hb dX7_put_94 rfl (lv_at hl 2 rfl) ?_
      refine lv_iadd hx hb dX7_put_95 ?_
      refine gx_top (y := nI (13 + k)) (nI_add 13 k) ?_
      refine lv_dup2_11 hx hb dX7_put_96 rfl rfl ?_
      refine gy_ild (i := (13 + k)) hx hb hK hP 1 rfl (by omega) (by omega) dX7_put_97 ?_
      refine lv_iconst (v := 1) hx hb dX7_put_98 (by decide) ?_
      refine lv_bipush (v := 19) hx hb dX7_put_99 (by decide) ?_
      refine lv_iload_n hx hb dX7_put_101 rfl (lv_at hl 3 rfl) ?_
      refine lv_iadd hx hb dX7_put_102 ?_
      refine gx_top (y := nI (19 + x)) (nI_add 19 x) ?_
      refine lv_ishl hx hb dX7_put_103 ?_
      refine lv_ior hx hb dX7_put_104 ?_
      refine gy_ist (i := (13 + k)) hx hb hK hP hD hS 1 rfl (by omega) (by omega) dX7_put_105 (fun H locs hP hD hS => ?_)
      have hP : va_P D vwCl [(h0, .inr (7, [.ref a1])), (a1, .inl (cI, 34, .inl (upd (upd f (9 + x) v) (13 + k) (((upd f (9 + x) v) (13 + k)) ||| (1 <<< (((nI (19 + x)) : Int32) &&& 31))))))] H := hP
      have hD : va_D A [(h0, .inr (7, [.ref a1])), (a1, .inl (cI, 34, .inl (upd (upd f (9 + x) v) (13 + k) (((upd f (9 + x) v) (13 + k)) ||| (1 <<< (((nI (19 + x)) : Int32) &&& 31))))))] := hD
      exact gx_vret (w' := [(h0, .inr (7, [.ref a1])), (a1, .inl (cI, 34, .inl (upd (upd f (9 + x) v) (13 + k) (((upd f (9 + x) v) (13 + k)) ||| (1 <<< (((nI (19 + x)) : Int32) &&& 31))))))]) hx hb hr hlk hK hP hD hS (Nat.le_of_ble_eq_true rfl) (Nat.le_of_ble_eq_true rfl) dX7_put_106 ⟨(upd (upd f (9 + x) v) (13 + k) (((upd f (9 + x) v) (13 + k)) ||| (1 <<< (((nI (19 + x)) : Int32) &&& 31)))), (by first | exact hW1 | exact gOkW_in' hW1 (by rw [gLo_hi _ _ (gLo_shl _ _ (19 + x) (s_l (19 + x) (by omega)) (by omega))]; exact gOkW_lo hW1 hk)), rfl⟩
  · refine lv_iload hx hb dX7_put_13 (lv_at hl 0 rfl) ?_
    refine lv_bipush (v := 6) hx hb dX7_put_15 (by decide) ?_
    refine gy_ge (a := (gSz (f (13 + k)))) (b := 6) (tgt := 72) hx hb (by omega) (by omega) dX7_put_17 (by decide) (fun c_3 => ?_) (fun c_3 => ?_)
    · refine lv_aload_n hx hb dX7_put_72 rfl (lv_at hl 1 rfl) ?_
      refine va_get (D := D) (ci := 7) (v := .ref a1) (C := RX7) (T := TX7) (N := 1) hx hb hts (fun _ h => List.mem_cons_of_mem _ (List.mem_append_right _ h)) hown hK hP 0 rfl rfl 0 (by decide) (hts (.fieldLink RX7 11 "LitmusHall$State" "words" "[I") (by decide +kernel)) (fun _ h9 => h9) rfl dX7_put_73 ?_
      refine lv_bipush (v := 9) hx hb dX7_put_76 (by decide) ?_
      refine lv_iload_n hx hb dX7_put_78 rfl (lv_at hl 3 rfl) ?_
      refine lv_iadd hx hb dX7_put_79 ?_
      refine gx_top (y := nI (9 + x)) (nI_add 9 x) ?_
      refine lv_iload_n hx hb dX7_put_80 rfl (lv_at hl 4 rfl) ?_
      refine gy_ist (i := (9 + x)) hx hb hK hP hD hS 1 rfl (by omega) (by omega) dX7_put_81 (fun H locs hP hD hS => ?_)
      have hP : va_P D vwCl [(h0, .inr (7, [.ref a1])), (a1, .inl (cI, 34, .inl (upd f (9 + x) v)))] H := hP
      have hD : va_D A [(h0, .inr (7, [.ref a1])), (a1, .inl (cI, 34, .inl (upd f (9 + x) v)))] := hD
      have hW1 := gOkW_out hW (i := 9 + x) (x := v) (by omega)
      refine lv_iload hx hb dX7_put_82 (lv_at hl 5 rfl) ?_
      refine lv_iconst (v := 2) hx hb dX7_put_84 (by decide) ?_
      refine lv_icmp_ne (tgt := 106) hx hb dX7_put_85 (by decide) (fun c_4 => ?_) (fun c_4 => ?_)
      · exact gx_vret (w' := [(h0, .inr (7, [.ref a1])), (a1, .inl (cI, 34, .inl (upd f (9 + x) v)))]) hx hb hr hlk hK hP hD hS (Nat.le_of_ble_eq_true rfl) (Nat.le_of_ble_eq_true rfl) dX7_put_106 ⟨(upd f (9 + x) v), (by first | exact hW1 | exact gOkW_in' hW1 (by rw [gLo_hi _ _ (gLo_shl _ _ (19 + x) (s_l (19 + x) (by omega)) (by omega))]; exact gOkW_lo hW1 hk)), rfl⟩
      · refine lv_aload_n hx hb dX7_put_88 rfl (lv_at hl 1 rfl) ?_
        refine va_get (D := D) (ci := 7) (v := .ref a1) (C := RX7) (T := TX7) (N := 1) hx hb hts (fun _ h => List.mem_cons_of_mem _ (List.mem_append_right _ h)) hown hK hP 0 rfl rfl 0 (by decide) (hts (.fieldLink RX7 11 "LitmusHall$State" "words" "[I") (by decide +kernel)) (fun _ h9 => h9) rfl dX7_put_89 ?_
        refine lv_bipush (v := 13) hx hb dX7_put_92 (by decide) ?_
        refine lv_iload_n hx hb dX7_put_94 rfl (lv_at hl 2 rfl) ?_
        refine lv_iadd hx hb dX7_put_95 ?_
        refine gx_top (y := nI (13 + k)) (nI_add 13 k) ?_
        refine lv_dup2_11 hx hb dX7_put_96 rfl rfl ?_
        refine gy_ild (i := (13 + k)) hx hb hK hP 1 rfl (by omega) (by omega) dX7_put_97 ?_
        refine lv_iconst (v := 1) hx hb dX7_put_98 (by decide) ?_
        refine lv_bipush (v := 19) hx hb dX7_put_99 (by decide) ?_
        refine lv_iload_n hx hb dX7_put_101 rfl (lv_at hl 3 rfl) ?_
        refine lv_iadd hx hb dX7_put_102 ?_
        refine gx_top (y := nI (19 + x)) (nI_add 19 x) ?_
        refine lv_ishl hx hb dX7_put_103 ?_
        refine lv_ior hx hb dX7_put_104 ?_
        refine gy_ist (i := (13 + k)) hx hb hK hP hD hS 1 rfl (by omega) (by omega) dX7_put_105 (fun H locs hP hD hS => ?_)
        have hP : va_P D vwCl [(h0, .inr (7, [.ref a1])), (a1, .inl (cI, 34, .inl (upd (upd f (9 + x) v) (13 + k) (((upd f (9 + x) v) (13 + k)) ||| (1 <<< (((nI (19 + x)) : Int32) &&& 31))))))] H := hP
        have hD : va_D A [(h0, .inr (7, [.ref a1])), (a1, .inl (cI, 34, .inl (upd (upd f (9 + x) v) (13 + k) (((upd f (9 + x) v) (13 + k)) ||| (1 <<< (((nI (19 + x)) : Int32) &&& 31))))))] := hD
        exact gx_vret (w' := [(h0, .inr (7, [.ref a1])), (a1, .inl (cI, 34, .inl (upd (upd f (9 + x) v) (13 + k) (((upd f (9 + x) v) (13 + k)) ||| (1 <<< (((nI (19 + x)) : Int32) &&& 31))))))]) hx hb hr hlk hK hP hD hS (Nat.le_of_ble_eq_true rfl) (Nat.le_of_ble_eq_true rfl) dX7_put_106 ⟨(upd (upd f (9 + x) v) (13 + k) (((upd f (9 + x) v) (13 + k)) ||| (1 <<< (((nI (19 + x)) : Int32) &&& 31)))), (by first | exact hW1 | exact gOkW_in' hW1 (by rw [gLo_hi _ _ (gLo_shl _ _ (19 + x) (s_l (19 + x) (by omega)) (by omega))]; exact gOkW_lo hW1 hk)), rfl⟩
    · refine lv_aload_n hx hb dX7_put_20 rfl (lv_at hl 1 rfl) ?_
      refine va_get (D := D) (ci := 7) (v := .ref a1) (C := RX7) (T := TX7) (N := 1) hx hb hts (fun _ h => List.mem_cons_of_mem _ (List.mem_append_right _ h)) hown hK hP 0 rfl rfl 0 (by decide) (hts (.fieldLink RX7 11 "LitmusHall$State" "words" "[I") (by decide +kernel)) (fun _ h9 => h9) rfl dX7_put_21 ?_
      refine lv_bipush (v := 16) hx hb dX7_put_24 (by decide) ?_
      refine lv_iload_n hx hb dX7_put_26 rfl (lv_at hl 2 rfl) ?_
      refine lv_bipush (v := 6) hx hb dX7_put_27 (by decide) ?_
      refine lv_imul hx hb dX7_put_29 ?_
      refine gx_top (y := nI (k * 6)) (pk_mul k 6) ?_
      refine lv_iadd hx hb dX7_put_30 ?_
      refine gx_top (y := nI (16 + (k * 6))) (nI_add 16 (k * 6)) ?_
      refine lv_iload hx hb dX7_put_31 (lv_at hl 0 rfl) ?_
      refine lv_iadd hx hb dX7_put_33 ?_
      refine gx_top (y := nI ((16 + (k * 6)) + (gSz (f (13 + k))))) (nI_add (16 + (k * 6)) (gSz (f (13 + k)))) ?_
      refine lv_iload_n hx hb dX7_put_34 rfl (lv_at hl 4 rfl) ?_
      refine gy_ist (i := ((16 + (k * 6)) + (gSz (f (13 + k))))) hx hb hK hP hD hS 1 rfl (by omega) (by omega) dX7_put_35 (fun H locs hP hD hS => ?_)
      have hP : va_P D vwCl [(h0, .inr (7, [.ref a1])), (a1, .inl (cI, 34, .inl (upd f ((16 + (k * 6)) + (gSz (f (13 + k)))) v)))] H := hP
      have hD : va_D A [(h0, .inr (7, [.ref a1])), (a1, .inl (cI, 34, .inl (upd f ((16 + (k * 6)) + (gSz (f (13 + k)))) v)))] := hD
      refine lv_aload_n hx hb dX7_put_36 rfl (lv_at hl 1 rfl) ?_
      refine va_get (D := D) (ci := 7) (v := .ref a1) (C := RX7) (T := TX7) (N := 1) hx hb hts (fun _ h => List.mem_cons_of_mem _ (List.mem_append_right _ h)) hown hK hP 0 rfl rfl 0 (by decide) (hts (.fieldLink RX7 11 "LitmusHall$State" "words" "[I") (by decide +kernel)) (fun _ h9 => h9) rfl dX7_put_37 ?_
      refine lv_bipush (v := 13) hx hb dX7_put_40 (by decide) ?_
      refine lv_iload_n hx hb dX7_put_42 rfl (lv_at hl 2 rfl) ?_
      refine lv_iadd hx hb dX7_put_43 ?_
      refine gx_top (y := nI (13 + k)) (nI_add 13 k) ?_
      refine lv_dup2_11 hx hb dX7_put_44 rfl rfl ?_
      refine gy_ild (i := (13 + k)) hx hb hK hP 1 rfl (by omega) (by omega) dX7_put_45 ?_
      refine lv_bipush (v := 16) hx hb dX7_put_46 (by decide) ?_
      refine lv_iadd hx hb dX7_put_48 ?_
      refine gy_ist (i := (13 + k)) hx hb hK hP hD hS 1 rfl (by omega) (by omega) dX7_put_49 (fun H locs hP hD hS => ?_)
      have hP : va_P D vwCl [(h0, .inr (7, [.ref a1])), (a1, .inl (cI, 34, .inl (upd (upd f ((16 + (k * 6)) + (gSz (f (13 + k)))) v) (13 + k) (((upd f ((16 + (k * 6)) + (gSz (f (13 + k)))) v) (13 + k)) + 16))))] H := hP
      have hD : va_D A [(h0, .inr (7, [.ref a1])), (a1, .inl (cI, 34, .inl (upd (upd f ((16 + (k * 6)) + (gSz (f (13 + k)))) v) (13 + k) (((upd f ((16 + (k * 6)) + (gSz (f (13 + k)))) v) (13 + k)) + 16))))] := hD
      refine lv_aload_n hx hb dX7_put_50 rfl (lv_at hl 1 rfl) ?_
      refine va_get (D := D) (ci := 7) (v := .ref a1) (C := RX7) (T := TX7) (N := 1) hx hb hts (fun _ h => List.mem_cons_of_mem _ (List.mem_append_right _ h)) hown hK hP 0 rfl rfl 0 (by decide) (hts (.fieldLink RX7 11 "LitmusHall$State" "words" "[I") (by decide +kernel)) (fun _ h9 => h9) rfl dX7_put_51 ?_
      refine lv_bipush (v := 13) hx hb dX7_put_54 (by decide) ?_
      refine lv_iload_n hx hb dX7_put_56 rfl (lv_at hl 2 rfl) ?_
      refine lv_iadd hx hb dX7_put_57 ?_
      refine gx_top (y := nI (13 + k)) (nI_add 13 k) ?_
      refine lv_dup2_11 hx hb dX7_put_58 rfl rfl ?_
      refine gy_ild (i := (13 + k)) hx hb hK hP 1 rfl (by omega) (by omega) dX7_put_59 ?_
      refine lv_iload_n hx hb dX7_put_60 rfl (lv_at hl 3 rfl) ?_
      refine lv_bipush (v := 7) hx hb dX7_put_61 (by decide) ?_
      refine lv_iconst (v := 2) hx hb dX7_put_63 (by decide) ?_
      refine lv_iload hx hb dX7_put_64 (lv_at hl 0 rfl) ?_
      refine lv_imul hx hb dX7_put_66 ?_
      refine gx_top (y := nI (2 * (gSz (f (13 + k))))) (pk_mul 2 (gSz (f (13 + k)))) ?_
      refine lv_iadd hx hb dX7_put_67 ?_
      refine gx_top (y := nI (7 + (2 * (gSz (f (13 + k)))))) (nI_add 7 (2 * (gSz (f (13 + k))))) ?_
      refine lv_ishl hx hb dX7_put_68 ?_
      refine lv_ior hx hb dX7_put_69 ?_
      refine gy_ist (i := (13 + k)) hx hb hK hP hD hS 1 rfl (by omega) (by omega) dX7_put_70 (fun H locs hP hD hS => ?_)
      have hP : va_P D vwCl [(h0, .inr (7, [.ref a1])), (a1, .inl (cI, 34, .inl (upd (upd (upd f ((16 + (k * 6)) + (gSz (f (13 + k)))) v) (13 + k) (((upd f ((16 + (k * 6)) + (gSz (f (13 + k)))) v) (13 + k)) + 16)) (13 + k) (((upd (upd f ((16 + (k * 6)) + (gSz (f (13 + k)))) v) (13 + k) (((upd f ((16 + (k * 6)) + (gSz (f (13 + k)))) v) (13 + k)) + 16)) (13 + k)) ||| ((nI x) <<< (((nI (7 + (2 * (gSz (f (13 + k)))))) : Int32) &&& 31))))))] H := hP
      have hD : va_D A [(h0, .inr (7, [.ref a1])), (a1, .inl (cI, 34, .inl (upd (upd (upd f ((16 + (k * 6)) + (gSz (f (13 + k)))) v) (13 + k) (((upd f ((16 + (k * 6)) + (gSz (f (13 + k)))) v) (13 + k)) + 16)) (13 + k) (((upd (upd f ((16 + (k * 6)) + (gSz (f (13 + k)))) v) (13 + k) (((upd f ((16 + (k * 6)) + (gSz (f (13 + k)))) v) (13 + k)) + 16)) (13 + k)) ||| ((nI x) <<< (((nI (7 + (2 * (gSz (f (13 + k)))))) : Int32) &&& 31))))))] := hD
      exact gx_vret (w' := [(h0, .inr (7, [.ref a1])), (a1, .inl (cI, 34, .inl (upd (upd (upd f ((16 + (k * 6)) + (gSz (f (13 + k)))) v) (13 + k) (((upd f ((16 + (k * 6)) + (gSz (f (13 + k)))) v) (13 + k)) + 16)) (13 + k) (((upd (upd f ((16 + (k * 6)) + (gSz (f (13 + k)))) v) (13 + k) (((upd f ((16 + (k * 6)) + (gSz (f (13 + k)))) v) (13 + k)) + 16)) (13 + k)) ||| ((nI x) <<< (((nI (7 + (2 * (gSz (f (13 + k)))))) : Int32) &&& 31))))))]) hx hb hr hlk hK hP hD hS (Nat.le_of_ble_eq_true rfl) (Nat.le_of_ble_eq_true rfl) dX7_put_71 ⟨(upd (upd (upd f ((16 + (k * 6)) + (gSz (f (13 + k)))) v) (13 + k) (((upd f ((16 + (k * 6)) + (gSz (f (13 + k)))) v) (13 + k)) + 16)) (13 + k) (((upd (upd f ((16 + (k * 6)) + (gSz (f (13 + k)))) v) (13 + k) (((upd f ((16 + (k * 6)) + (gSz (f (13 + k)))) v) (13 + k)) + 16)) (13 + k)) ||| ((nI x) <<< (((nI (7 + (2 * (gSz (f (13 + k)))))) : Int32) &&& 31)))), (gOkW_put hW hk c_3), rfl⟩
