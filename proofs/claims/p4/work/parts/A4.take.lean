theorem dX6_takeCell_0 : decode cX6_takeCell 0 = .ok (.aload_n 0, 1) := by decide +kernel
theorem dX6_takeCell_1 : decode cX6_takeCell 1 = .ok (.aload_n 0, 1) := by decide +kernel
theorem dX6_takeCell_10 : decode cX6_takeCell 10 = .ok (.putfield 108, 3) := by decide +kernel
theorem dX6_takeCell_13 : decode cX6_takeCell 13 = .ok (.aload_n 0, 1) := by decide +kernel
theorem dX6_takeCell_14 : decode cX6_takeCell 14 = .ok (.bipush 16, 2) := by decide +kernel
theorem dX6_takeCell_16 : decode cX6_takeCell 16 = .ok (.invokevirtual 102, 3) := by decide +kernel
theorem dX6_takeCell_19 : decode cX6_takeCell 19 = .ok (.ifCond .ne 5, 3) := by decide +kernel
theorem dX6_takeCell_2 : decode cX6_takeCell 2 = .ok (.getfield 29, 3) := by decide +kernel
theorem dX6_takeCell_22 : decode cX6_takeCell 22 = .ok (.iconst 0, 1) := by decide +kernel
theorem dX6_takeCell_23 : decode cX6_takeCell 23 = .ok (.ireturn, 1) := by decide +kernel
theorem dX6_takeCell_24 : decode cX6_takeCell 24 = .ok (.aload_n 0, 1) := by decide +kernel
theorem dX6_takeCell_25 : decode cX6_takeCell 25 = .ok (.getfield 108, 3) := by decide +kernel
theorem dX6_takeCell_28 : decode cX6_takeCell 28 = .ok (.iconst 4, 1) := by decide +kernel
theorem dX6_takeCell_29 : decode cX6_takeCell 29 = .ok (.if_icmp .lt 13, 3) := by decide +kernel
theorem dX6_takeCell_32 : decode cX6_takeCell 32 = .ok (.aload_n 0, 1) := by decide +kernel
theorem dX6_takeCell_33 : decode cX6_takeCell 33 = .ok (.aload_n 0, 1) := by decide +kernel
theorem dX6_takeCell_34 : decode cX6_takeCell 34 = .ok (.getfield 45, 3) := by decide +kernel
theorem dX6_takeCell_37 : decode cX6_takeCell 37 = .ok (.iconst 1, 1) := by decide +kernel
theorem dX6_takeCell_38 : decode cX6_takeCell 38 = .ok (.isub, 1) := by decide +kernel
theorem dX6_takeCell_39 : decode cX6_takeCell 39 = .ok (.invokevirtual 115, 3) := by decide +kernel
theorem dX6_takeCell_42 : decode cX6_takeCell 42 = .ok (.iconst 1, 1) := by decide +kernel
theorem dX6_takeCell_43 : decode cX6_takeCell 43 = .ok (.ireturn, 1) := by decide +kernel
theorem dX6_takeCell_5 : decode cX6_takeCell 5 = .ok (.aload_n 0, 1) := by decide +kernel
theorem dX6_takeCell_6 : decode cX6_takeCell 6 = .ok (.getfield 45, 3) := by decide +kernel
theorem dX6_takeCell_9 : decode cX6_takeCell 9 = .ok (.iaload, 1) := by decide +kernel
theorem dX6_takeReg_0 : decode cX6_takeReg 0 = .ok (.aload_n 0, 1) := by decide +kernel
theorem dX6_takeReg_1 : decode cX6_takeReg 1 = .ok (.getfield 22, 3) := by decide +kernel
theorem dX6_takeReg_10 : decode cX6_takeReg 10 = .ok (.iload_n 1, 1) := by decide +kernel
theorem dX6_takeReg_11 : decode cX6_takeReg 11 = .ok (.bipush 13, 2) := by decide +kernel
theorem dX6_takeReg_13 : decode cX6_takeReg 13 = .ok (.if_icmp .lt 9, 3) := by decide +kernel
theorem dX6_takeReg_16 : decode cX6_takeReg 16 = .ok (.iload_n 1, 1) := by decide +kernel
theorem dX6_takeReg_17 : decode cX6_takeReg 17 = .ok (.bipush 15, 2) := by decide +kernel
theorem dX6_takeReg_19 : decode cX6_takeReg 19 = .ok (.if_icmp .le 9, 3) := by decide +kernel
theorem dX6_takeReg_22 : decode cX6_takeReg 22 = .ok (.aload_n 0, 1) := by decide +kernel
theorem dX6_takeReg_23 : decode cX6_takeReg 23 = .ok (.iconst 1, 1) := by decide +kernel
theorem dX6_takeReg_24 : decode cX6_takeReg 24 = .ok (.invokevirtual 96, 3) := by decide +kernel
theorem dX6_takeReg_27 : decode cX6_takeReg 27 = .ok (.ireturn, 1) := by decide +kernel
theorem dX6_takeReg_28 : decode cX6_takeReg 28 = .ok (.aload_n 0, 1) := by decide +kernel
theorem dX6_takeReg_29 : decode cX6_takeReg 29 = .ok (.iload_n 1, 1) := by decide +kernel
theorem dX6_takeReg_30 : decode cX6_takeReg 30 = .ok (.bipush 13, 2) := by decide +kernel
theorem dX6_takeReg_32 : decode cX6_takeReg 32 = .ok (.isub, 1) := by decide +kernel
theorem dX6_takeReg_33 : decode cX6_takeReg 33 = .ok (.putfield 122, 3) := by decide +kernel
theorem dX6_takeReg_36 : decode cX6_takeReg 36 = .ok (.aload_n 0, 1) := by decide +kernel
theorem dX6_takeReg_37 : decode cX6_takeReg 37 = .ok (.iload_n 1, 1) := by decide +kernel
theorem dX6_takeReg_38 : decode cX6_takeReg 38 = .ok (.invokevirtual 102, 3) := by decide +kernel
theorem dX6_takeReg_4 : decode cX6_takeReg 4 = .ok (.aload_n 0, 1) := by decide +kernel
theorem dX6_takeReg_41 : decode cX6_takeReg 41 = .ok (.ireturn, 1) := by decide +kernel
theorem dX6_takeReg_5 : decode cX6_takeReg 5 = .ok (.getfield 45, 3) := by decide +kernel
theorem dX6_takeReg_8 : decode cX6_takeReg 8 = .ok (.iaload, 1) := by decide +kernel
theorem dX6_takeReg_9 : decode cX6_takeReg 9 = .ok (.istore_n 1, 1) := by decide +kernel
theorem dX6_takeSkip_0 : decode cX6_takeSkip 0 = .ok (.aload_n 0, 1) := by decide +kernel
theorem dX6_takeSkip_1 : decode cX6_takeSkip 1 = .ok (.bipush 12, 2) := by decide +kernel
theorem dX6_takeSkip_10 : decode cX6_takeSkip 10 = .ok (.ireturn, 1) := by decide +kernel
theorem dX6_takeSkip_11 : decode cX6_takeSkip 11 = .ok (.aload_n 0, 1) := by decide +kernel
theorem dX6_takeSkip_12 : decode cX6_takeSkip 12 = .ok (.aload_n 0, 1) := by decide +kernel
theorem dX6_takeSkip_13 : decode cX6_takeSkip 13 = .ok (.getfield 29, 3) := by decide +kernel
theorem dX6_takeSkip_16 : decode cX6_takeSkip 16 = .ok (.aload_n 0, 1) := by decide +kernel
theorem dX6_takeSkip_17 : decode cX6_takeSkip 17 = .ok (.getfield 45, 3) := by decide +kernel
theorem dX6_takeSkip_20 : decode cX6_takeSkip 20 = .ok (.iaload, 1) := by decide +kernel
theorem dX6_takeSkip_21 : decode cX6_takeSkip 21 = .ok (.putfield 108, 3) := by decide +kernel
theorem dX6_takeSkip_24 : decode cX6_takeSkip 24 = .ok (.aload_n 0, 1) := by decide +kernel
theorem dX6_takeSkip_25 : decode cX6_takeSkip 25 = .ok (.bipush 16, 2) := by decide +kernel
theorem dX6_takeSkip_27 : decode cX6_takeSkip 27 = .ok (.invokevirtual 102, 3) := by decide +kernel
theorem dX6_takeSkip_3 : decode cX6_takeSkip 3 = .ok (.invokevirtual 102, 3) := by decide +kernel
theorem dX6_takeSkip_30 : decode cX6_takeSkip 30 = .ok (.ireturn, 1) := by decide +kernel
theorem dX6_takeSkip_6 : decode cX6_takeSkip 6 = .ok (.ifCond .ne 5, 3) := by decide +kernel
theorem dX6_takeSkip_9 : decode cX6_takeSkip 9 = .ok (.iconst 0, 1) := by decide +kernel
theorem dX6_takeVal_0 : decode cX6_takeVal 0 = .ok (.aload_n 0, 1) := by decide +kernel
theorem dX6_takeVal_1 : decode cX6_takeVal 1 = .ok (.getfield 22, 3) := by decide +kernel
theorem dX6_takeVal_10 : decode cX6_takeVal 10 = .ok (.iload_n 1, 1) := by decide +kernel
theorem dX6_takeVal_100 : decode cX6_takeVal 100 = .ok (.bipush 16, 2) := by decide +kernel
theorem dX6_takeVal_102 : decode cX6_takeVal 102 = .ok (.invokevirtual 102, 3) := by decide +kernel
theorem dX6_takeVal_105 : decode cX6_takeVal 105 = .ok (.ireturn, 1) := by decide +kernel
theorem dX6_takeVal_11 : decode cX6_takeVal 11 = .ok (.ifCond .eq 34, 3) := by decide +kernel
theorem dX6_takeVal_14 : decode cX6_takeVal 14 = .ok (.iload_n 2, 1) := by decide +kernel
theorem dX6_takeVal_15 : decode cX6_takeVal 15 = .ok (.bipush 13, 2) := by decide +kernel
theorem dX6_takeVal_17 : decode cX6_takeVal 17 = .ok (.if_icmp .lt 28, 3) := by decide +kernel
theorem dX6_takeVal_20 : decode cX6_takeVal 20 = .ok (.iload_n 2, 1) := by decide +kernel
theorem dX6_takeVal_21 : decode cX6_takeVal 21 = .ok (.bipush 15, 2) := by decide +kernel
theorem dX6_takeVal_23 : decode cX6_takeVal 23 = .ok (.if_icmp .gt 22, 3) := by decide +kernel
theorem dX6_takeVal_26 : decode cX6_takeVal 26 = .ok (.aload_n 0, 1) := by decide +kernel
theorem dX6_takeVal_27 : decode cX6_takeVal 27 = .ok (.iload_n 2, 1) := by decide +kernel
theorem dX6_takeVal_28 : decode cX6_takeVal 28 = .ok (.bipush 13, 2) := by decide +kernel
theorem dX6_takeVal_30 : decode cX6_takeVal 30 = .ok (.isub, 1) := by decide +kernel
theorem dX6_takeVal_31 : decode cX6_takeVal 31 = .ok (.putfield 122, 3) := by decide +kernel
theorem dX6_takeVal_34 : decode cX6_takeVal 34 = .ok (.aload_n 0, 1) := by decide +kernel
theorem dX6_takeVal_35 : decode cX6_takeVal 35 = .ok (.iconst 0, 1) := by decide +kernel
theorem dX6_takeVal_36 : decode cX6_takeVal 36 = .ok (.putfield 108, 3) := by decide +kernel
theorem dX6_takeVal_39 : decode cX6_takeVal 39 = .ok (.aload_n 0, 1) := by decide +kernel
theorem dX6_takeVal_4 : decode cX6_takeVal 4 = .ok (.aload_n 0, 1) := by decide +kernel
theorem dX6_takeVal_40 : decode cX6_takeVal 40 = .ok (.iload_n 2, 1) := by decide +kernel
theorem dX6_takeVal_41 : decode cX6_takeVal 41 = .ok (.invokevirtual 102, 3) := by decide +kernel
theorem dX6_takeVal_44 : decode cX6_takeVal 44 = .ok (.ireturn, 1) := by decide +kernel
theorem dX6_takeVal_45 : decode cX6_takeVal 45 = .ok (.iload_n 2, 1) := by decide +kernel
theorem dX6_takeVal_46 : decode cX6_takeVal 46 = .ok (.bipush 20, 2) := by decide +kernel
theorem dX6_takeVal_48 : decode cX6_takeVal 48 = .ok (.if_icmp .ne 14, 3) := by decide +kernel
theorem dX6_takeVal_5 : decode cX6_takeVal 5 = .ok (.getfield 45, 3) := by decide +kernel
theorem dX6_takeVal_51 : decode cX6_takeVal 51 = .ok (.aload_n 0, 1) := by decide +kernel
theorem dX6_takeVal_52 : decode cX6_takeVal 52 = .ok (.bipush 20, 2) := by decide +kernel
theorem dX6_takeVal_54 : decode cX6_takeVal 54 = .ok (.invokevirtual 102, 3) := by decide +kernel
theorem dX6_takeVal_57 : decode cX6_takeVal 57 = .ok (.ifCond .ne 5, 3) := by decide +kernel
theorem dX6_takeVal_60 : decode cX6_takeVal 60 = .ok (.iconst 0, 1) := by decide +kernel
theorem dX6_takeVal_61 : decode cX6_takeVal 61 = .ok (.ireturn, 1) := by decide +kernel
theorem dX6_takeVal_62 : decode cX6_takeVal 62 = .ok (.aload_n 0, 1) := by decide +kernel
theorem dX6_takeVal_63 : decode cX6_takeVal 63 = .ok (.iconst (-1), 1) := by decide +kernel
theorem dX6_takeVal_64 : decode cX6_takeVal 64 = .ok (.putfield 122, 3) := by decide +kernel
theorem dX6_takeVal_67 : decode cX6_takeVal 67 = .ok (.aload_n 0, 1) := by decide +kernel
theorem dX6_takeVal_68 : decode cX6_takeVal 68 = .ok (.iload_n 2, 1) := by decide +kernel
theorem dX6_takeVal_69 : decode cX6_takeVal 69 = .ok (.bipush 20, 2) := by decide +kernel
theorem dX6_takeVal_71 : decode cX6_takeVal 71 = .ok (.if_icmp .ne 16, 3) := by decide +kernel
theorem dX6_takeVal_74 : decode cX6_takeVal 74 = .ok (.aload_n 0, 1) := by decide +kernel
theorem dX6_takeVal_75 : decode cX6_takeVal 75 = .ok (.getfield 29, 3) := by decide +kernel
theorem dX6_takeVal_78 : decode cX6_takeVal 78 = .ok (.aload_n 0, 1) := by decide +kernel
theorem dX6_takeVal_79 : decode cX6_takeVal 79 = .ok (.getfield 45, 3) := by decide +kernel
theorem dX6_takeVal_8 : decode cX6_takeVal 8 = .ok (.iaload, 1) := by decide +kernel
theorem dX6_takeVal_82 : decode cX6_takeVal 82 = .ok (.iaload, 1) := by decide +kernel
theorem dX6_takeVal_83 : decode cX6_takeVal 83 = .ok (.ineg, 1) := by decide +kernel
theorem dX6_takeVal_84 : decode cX6_takeVal 84 = .ok (.goto 12, 3) := by decide +kernel
theorem dX6_takeVal_87 : decode cX6_takeVal 87 = .ok (.aload_n 0, 1) := by decide +kernel
theorem dX6_takeVal_88 : decode cX6_takeVal 88 = .ok (.getfield 29, 3) := by decide +kernel
theorem dX6_takeVal_9 : decode cX6_takeVal 9 = .ok (.istore_n 2, 1) := by decide +kernel
theorem dX6_takeVal_91 : decode cX6_takeVal 91 = .ok (.aload_n 0, 1) := by decide +kernel
theorem dX6_takeVal_92 : decode cX6_takeVal 92 = .ok (.getfield 45, 3) := by decide +kernel
theorem dX6_takeVal_95 : decode cX6_takeVal 95 = .ok (.iaload, 1) := by decide +kernel
theorem dX6_takeVal_96 : decode cX6_takeVal 96 = .ok (.putfield 108, 3) := by decide +kernel
theorem dX6_takeVal_99 : decode cX6_takeVal 99 = .ok (.aload_n 0, 1) := by decide +kernel
theorem gW_c_fail : wsP_c_fail.all goodWord = true := by decide +kernel
def wsP_e_take : List Cond := .code yX6_take cX6_take 2 (some .boolean) :: (([.fieldLink RX6 22 "LitmusHall$Reader" "kinds" "[I", .fieldLink RX6 45 "LitmusHall$Reader" "at" "I", .methodLink RX6 96 yX6_fail, .instanceMethod yX6_fail, .selects RX6 yX6_fail yX6_fail, .initialized RX6] ++ wsX60) ++ (wsP_c_fail ++ []))
theorem gW_e_take : wsP_e_take.all goodWord = true := by unfold wsP_e_take; exact gw_mk (by decide +kernel) (gw_app gW_c_fail rfl)
set_option maxRecDepth 20000 in
theorem gP_e_take__c_fail : GoodIn wsP_e_take (wsV RX6 96 RX6 yX6_fail wsP_c_fail) := gw_in (pre := [.methodLink RX6 96 yX6_fail, .instanceMethod yX6_fail, .selects RX6 yX6_fail yX6_fail, .initialized RX6]) (by decide +kernel) (fun _ h => List.mem_cons_of_mem _ (List.mem_append_right _ (List.mem_append_left _ h))) gW_c_fail
set_option maxHeartbeats 4000000 in
set_option maxRecDepth 100000 in
theorem e_take (l : Launch) (D : va_G) (cI cB cZ : ClassId) (h0 : Nat) (k4 : Nat) (k5 : Nat) (v0 : Value) (v3 : Value) (v6 : Value) (v7 : Value) (v9 : Value) (v10 : Value) (v11 : Value) (pv : Int32) (fv : Int32) (Kd : Nat → Nat) (sf : Nat → Int32) (t : Nat) (x : Int32) (ht : t ≤ 500) : gMi l yX6_take wsP_e_take ({ frames := 1, cells := 0, slots := 0, locals := 21 }) D cI cB cZ [] [.ref h0, .int x] [(h0, .inr (6, [v0, .int pv, .int fv, v3, .ref k4, .ref k5, v6, v7, .int (nI t), v9, v10, v11])), (k4, .inl (cI, 501, .inl (fun j => nI (Kd j)))), (k5, .inl (cI, 501, .inl sf))] (fun r9 w9 => ∃ z : Int32, ∃ pv9 : Int32, ∃ fv9 : Int32, ∃ t9 : Nat, ((z = 0 ∧ t9 = t ∧ ¬ fv9 = 0) ∨ (z = 1 ∧ t9 = t + 1 ∧ t < 500 ∧ nI (Kd t) = x ∧ fv9 = fv)) ∧ r9 = z ∧ w9 = [(h0, .inr (6, [v0, .int pv9, .int fv9, v3, .ref k4, .ref k5, v6, v7, .int (nI t9), v9, v10, v11])), (k4, .inl (cI, 501, .inl (fun j => nI (Kd j)))), (k5, .inl (cI, 501, .inl sf))]) := by
  refine gMi.of (cc := cX6_take) (maxL := 2) (ret := (some .boolean)) (by decide) rfl (Nat.le_of_ble_eq_true rfl) (fun p e s m below meth c A ls hx hb hr hlk hml hts hown hin hA hP hK hD hS hN hl => ?_)
  have hown : s.vm.findClass RX6 = some m.cls := hown
  have hl : lv_has ls 2 [(0, .ref h0), (1, .int x)] := hl
  refine lv_aload_n hx hb dX6_take_0 rfl (lv_at hl 0 rfl) ?_
  refine va_get (D := D) (ci := 6) (v := .ref k4) (C := RX6) (T := TX6) (N := 12) hx hb hts (fun _ h => List.mem_cons_of_mem _ (List.mem_append_left _ (List.mem_append_right _ h))) hown hK hP 0 rfl rfl 4 (by decide) (hts (.fieldLink RX6 22 "LitmusHall$Reader" "kinds" "[I") (by decide +kernel)) (fun _ h9 => h9) rfl dX6_take_1 ?_
  refine lv_aload_n hx hb dX6_take_4 rfl (lv_at hl 0 rfl) ?_
  refine va_get (D := D) (ci := 6) (v := .int (nI t)) (C := RX6) (T := TX6) (N := 12) hx hb hts (fun _ h => List.mem_cons_of_mem _ (List.mem_append_left _ (List.mem_append_right _ h))) hown hK hP 0 rfl rfl 8 (by decide) (hts (.fieldLink RX6 45 "LitmusHall$Reader" "at" "I") (by decide +kernel)) (fun _ h9 => h9) rfl dX6_take_5 ?_
  refine gy_ild (i := t) hx hb hK hP 1 rfl (by omega) (by omega) dX6_take_8 ?_
  refine gx_top (y := nI (Kd t)) rfl ?_
  refine lv_iload_n hx hb dX6_take_9 rfl (lv_at hl 1 rfl) ?_
  refine lv_icmp_eq (tgt := 19) hx hb dX6_take_10 (by decide) (fun c_1 => ?_) (fun c_1 => ?_)
  · refine lv_aload_n hx hb dX6_take_19 rfl (lv_at hl 0 rfl) ?_
    refine va_get (D := D) (ci := 6) (v := .int (nI t)) (C := RX6) (T := TX6) (N := 12) hx hb hts (fun _ h => List.mem_cons_of_mem _ (List.mem_append_left _ (List.mem_append_right _ h))) hown hK hP 0 rfl rfl 8 (by decide) (hts (.fieldLink RX6 45 "LitmusHall$Reader" "at" "I") (by decide +kernel)) (fun _ h9 => h9) rfl dX6_take_20 ?_
    refine lv_sipush (v := 500) hx hb dX6_take_23 (by decide) ?_
    refine gy_lt (a := t) (b := 500) (tgt := 35) hx hb (by omega) (by omega) dX6_take_26 (by decide) (fun c_2 => ?_) (fun c_2 => ?_)
    · refine lv_aload_n hx hb dX6_take_35 rfl (lv_at hl 0 rfl) ?_
      refine lv_dup hx hb dX6_take_36 rfl ?_
      refine va_get (D := D) (ci := 6) (v := .int (nI t)) (C := RX6) (T := TX6) (N := 12) hx hb hts (fun _ h => List.mem_cons_of_mem _ (List.mem_append_left _ (List.mem_append_right _ h))) hown hK hP 0 rfl rfl 8 (by decide) (hts (.fieldLink RX6 45 "LitmusHall$Reader" "at" "I") (by decide +kernel)) (fun _ h9 => h9) rfl dX6_take_37 ?_
      refine lv_iconst (v := 1) hx hb dX6_take_40 (by decide) ?_
      refine lv_iadd hx hb dX6_take_41 ?_
      refine gx_top (y := nI (t + 1)) (nI_add t 1) ?_
      refine va_put (D := D) (ci := 6) (v := .int (nI (t + 1))) (ty := .int) (C := RX6) (T := TX6) (N := 12) hx hb hts (fun _ h => List.mem_cons_of_mem _ (List.mem_append_left _ (List.mem_append_right _ h))) tyX6 tyX6_ok nmX6 hown hK hP hD hS 0 rfl rfl 8 (by decide) (hts (.fieldLink RX6 45 "LitmusHall$Reader" "at" "I") (by decide +kernel)) (fun _ h9 => h9) rfl (by decide +kernel) rfl rfl (Nat.le_of_ble_eq_true rfl) dX6_take_42 (fun H locs hP hD hS => ?_)
      have hP : va_P D vwCl [(h0, .inr (6, [v0, .int pv, .int fv, v3, .ref k4, .ref k5, v6, v7, .int (nI (t + 1)), v9, v10, v11])), (k4, .inl (cI, 501, .inl (fun j => nI (Kd j)))), (k5, .inl (cI, 501, .inl sf))] H := hP
      have hD : va_D A [(h0, .inr (6, [v0, .int pv, .int fv, v3, .ref k4, .ref k5, v6, v7, .int (nI (t + 1)), v9, v10, v11])), (k4, .inl (cI, 501, .inl (fun j => nI (Kd j)))), (k5, .inl (cI, 501, .inl sf))] := hD
      refine lv_iconst (v := 1) hx hb dX6_take_45 (by decide) ?_
      exact gx_zret (w' := [(h0, .inr (6, [v0, .int pv, .int fv, v3, .ref k4, .ref k5, v6, v7, .int (nI (t + 1)), v9, v10, v11])), (k4, .inl (cI, 501, .inl (fun j => nI (Kd j)))), (k5, .inl (cI, 501, .inl sf))]) hx hb hr hlk hK hP hD hS (Nat.le_of_ble_eq_true rfl) (Nat.le_of_ble_eq_true rfl) dX6_take_46 rfl ⟨1, pv, fv, (t + 1), (Or.inr ⟨rfl, rfl, c_2, c_1, rfl⟩), rfl, rfl⟩
    · refine lv_aload_n hx hb dX6_take_29 rfl (lv_at hl 0 rfl) ?_
      refine lv_iconst (v := 2) hx hb dX6_take_30 (by decide) ?_
      refine gx_goi (wc := [(h0, .inr (6, [v0, .int pv, .int fv, v3, .ref k4, .ref k5, v6, v7, .int (nI t), v9, v10, v11])), (k5, .inl (cI, 501, .inl sf))]) (wr := [(k4, .inl (cI, 501, .inl (fun j => nI (Kd j))))]) (va_runV (As := [.int 2]) (rest := []) ⟨hx, hb, hml, hown, hts⟩ (c_fail l D cI cB cZ h0 k5 (v0) (v3) (.ref k4) (v6) (v7) (v9) (v10) (v11) pv fv sf t 2 (by omega) _) (cwV 1 hts gP_e_take__c_fail rfl rfl rfl (by decide +kernel) ⟨Nat.le_of_ble_eq_true rfl, Nat.le_of_ble_eq_true rfl⟩) (gx_preV (ci := 6) (q0 := 0) hK gN.nil hP hD [0, 2] rfl rfl rfl rfl) rfl rfl hl.1 rfl (lv_room (Nat.le_of_ble_eq_true rfl)) dX6_take_31 ⟨Nat.le_of_ble_eq_true rfl, Nat.le_of_ble_eq_true rfl⟩) hP hD hS hA [0, 2] [1] rfl rfl rfl (by decide) (fun r1 w1 H locs hp hP hD hS => ?_)
      obtain ⟨h9, rfl⟩ := hp
      have h9 := h9.symm
      subst h9
      have hP : va_P D vwCl [(k4, .inl (cI, 501, .inl (fun j => nI (Kd j)))), (h0, .inr (6, [v0, .int (sf t), .int 2, v3, .ref k4, .ref k5, v6, v7, .int (nI t), v9, v10, v11])), (k5, .inl (cI, 501, .inl sf))] H := hP
      have hD : va_D A [(k4, .inl (cI, 501, .inl (fun j => nI (Kd j)))), (h0, .inr (6, [v0, .int (sf t), .int 2, v3, .ref k4, .ref k5, v6, v7, .int (nI t), v9, v10, v11])), (k5, .inl (cI, 501, .inl sf))] := hD
      have hP := hP.sub (ws' := [(h0, .inr (6, [v0, .int (sf t), .int 2, v3, .ref k4, .ref k5, v6, v7, .int (nI t), v9, v10, v11])), (k4, .inl (cI, 501, .inl (fun j => nI (Kd j)))), (k5, .inl (cI, 501, .inl sf))]) [1, 0, 2] rfl
      have hD := hD.sub (ws' := [(h0, .inr (6, [v0, .int (sf t), .int 2, v3, .ref k4, .ref k5, v6, v7, .int (nI t), v9, v10, v11])), (k4, .inl (cI, 501, .inl (fun j => nI (Kd j)))), (k5, .inl (cI, 501, .inl sf))]) [1, 0, 2] (by decide) rfl
      exact gx_zret (w' := [(h0, .inr (6, [v0, .int (sf t), .int 2, v3, .ref k4, .ref k5, v6, v7, .int (nI t), v9, v10, v11])), (k4, .inl (cI, 501, .inl (fun j => nI (Kd j)))), (k5, .inl (cI, 501, .inl sf))]) hx hb hr hlk hK hP hD hS (Nat.le_of_ble_eq_true rfl) (Nat.le_of_ble_eq_true rfl) dX6_take_34 rfl ⟨0, (sf t), 2, t, (Or.inl ⟨rfl, rfl, by decide⟩), rfl, rfl⟩
  · refine lv_aload_n hx hb dX6_take_13 rfl (lv_at hl 0 rfl) ?_
    refine lv_iconst (v := 1) hx hb dX6_take_14 (by decide) ?_
    refine gx_goi (wc := [(h0, .inr (6, [v0, .int pv, .int fv, v3, .ref k4, .ref k5, v6, v7, .int (nI t), v9, v10, v11])), (k5, .inl (cI, 501, .inl sf))]) (wr := [(k4, .inl (cI, 501, .inl (fun j => nI (Kd j))))]) (va_runV (As := [.int 1]) (rest := []) ⟨hx, hb, hml, hown, hts⟩ (c_fail l D cI cB cZ h0 k5 (v0) (v3) (.ref k4) (v6) (v7) (v9) (v10) (v11) pv fv sf t 1 (by omega) _) (cwV 1 hts gP_e_take__c_fail rfl rfl rfl (by decide +kernel) ⟨Nat.le_of_ble_eq_true rfl, Nat.le_of_ble_eq_true rfl⟩) (gx_preV (ci := 6) (q0 := 0) hK gN.nil hP hD [0, 2] rfl rfl rfl rfl) rfl rfl hl.1 rfl (lv_room (Nat.le_of_ble_eq_true rfl)) dX6_take_15 ⟨Nat.le_of_ble_eq_true rfl, Nat.le_of_ble_eq_true rfl⟩) hP hD hS hA [0, 2] [1] rfl rfl rfl (by decide) (fun r1 w1 H locs hp hP hD hS => ?_)
    obtain ⟨h9, rfl⟩ := hp
    have h9 := h9.symm
    subst h9
    have hP : va_P D vwCl [(k4, .inl (cI, 501, .inl (fun j => nI (Kd j)))), (h0, .inr (6, [v0, .int (sf t), .int 1, v3, .ref k4, .ref k5, v6, v7, .int (nI t), v9, v10, v11])), (k5, .inl (cI, 501, .inl sf))] H := hP
    have hD : va_D A [(k4, .inl (cI, 501, .inl (fun j => nI (Kd j)))), (h0, .inr (6, [v0, .int (sf t), .int 1, v3, .ref k4, .ref k5, v6, v7, .int (nI t), v9, v10, v11])), (k5, .inl (cI, 501, .inl sf))] := hD
    have hP := hP.sub (ws' := [(h0, .inr (6, [v0, .int (sf t), .int 1, v3, .ref k4, .ref k5, v6, v7, .int (nI t), v9, v10, v11])), (k4, .inl (cI, 501, .inl (fun j => nI (Kd j)))), (k5, .inl (cI, 501, .inl sf))]) [1, 0, 2] rfl
    have hD := hD.sub (ws' := [(h0, .inr (6, [v0, .int (sf t), .int 1, v3, .ref k4, .ref k5, v6, v7, .int (nI t), v9, v10, v11])), (k4, .inl (cI, 501, .inl (fun j => nI (Kd j)))), (k5, .inl (cI, 501, .inl sf))]) [1, 0, 2] (by decide) rfl
    exact gx_zret (w' := [(h0, .inr (6, [v0, .int (sf t), .int 1, v3, .ref k4, .ref k5, v6, v7, .int (nI t), v9, v10, v11])), (k4, .inl (cI, 501, .inl (fun j => nI (Kd j)))), (k5, .inl (cI, 501, .inl sf))]) hx hb hr hlk hK hP hD hS (Nat.le_of_ble_eq_true rfl) (Nat.le_of_ble_eq_true rfl) dX6_take_18 rfl ⟨0, (sf t), 1, t, (Or.inl ⟨rfl, rfl, by decide⟩), rfl, rfl⟩
def wsP_e_noteLate : List Cond := .code yX6_noteLate cX6_noteLate 2 none :: (([.fieldLink RX6 42 "LitmusHall$Reader" "latePlace" "I", .fieldLink RX6 26 "LitmusHall$Reader" "starts" "[I"] ++ wsX60) ++ [])
theorem gW_e_noteLate : wsP_e_noteLate.all goodWord = true := by unfold wsP_e_noteLate; exact gw_mk (by decide +kernel) rfl
set_option maxHeartbeats 4000000 in
set_option maxRecDepth 100000 in
theorem e_noteLate (l : Launch) (D : va_G) (cI cB cZ : ClassId) (h0 : Nat) (k5 : Nat) (v0 : Value) (v1 : Value) (v2 : Value) (v4 : Value) (v6 : Value) (v7 : Value) (v8 : Value) (v9 : Value) (v10 : Value) (v11 : Value) (lp : Int32) (sf : Nat → Int32) (t : Nat) (ht : t ≤ 500) (hsf : ¬ sf t = (-1)) : gMv l yX6_noteLate wsP_e_noteLate ({ frames := 0, cells := 0, slots := 0, locals := 0 }) D cI cB cZ [] [.ref h0, .int (nI t)] [(h0, .inr (6, [v0, v1, v2, .int lp, v4, .ref k5, v6, v7, v8, v9, v10, v11])), (k5, .inl (cI, 501, .inl sf))] (fun w9 => ∃ lp9 : Int32, (¬ lp9 = (-1)) ∧ w9 = [(h0, .inr (6, [v0, v1, v2, .int lp9, v4, .ref k5, v6, v7, v8, v9, v10, v11])), (k5, .inl (cI, 501, .inl sf))]) := by
  refine gMv.of (cc := cX6_noteLate) (maxL := 2) (ret := none) (by decide) rfl (Nat.le_of_ble_eq_true rfl) (fun p e s m below meth c A ls hx hb hr hlk hml hts hown hin hA hP hK hD hS hN hl => ?_)
  have hown : s.vm.findClass RX6 = some m.cls := hown
  have hl : lv_has ls 2 [(0, .ref h0), (1, .int (nI t))] := hl
  refine lv_aload_n hx hb dX6_noteLate_0 rfl (lv_at hl 0 rfl) ?_
  refine va_get (D := D) (ci := 6) (v := .int lp) (C := RX6) (T := TX6) (N := 12) hx hb hts (fun _ h => List.mem_cons_of_mem _ (List.mem_append_left _ (List.mem_append_right _ h))) hown hK hP 0 rfl rfl 3 (by decide) (hts (.fieldLink RX6 42 "LitmusHall$Reader" "latePlace" "I") (by decide +kernel)) (fun _ h9 => h9) rfl dX6_noteLate_1 ?_
  refine lv_iconst (v := (-1)) hx hb dX6_noteLate_4 (by decide) ?_
  refine lv_icmp_eq (tgt := 21) hx hb dX6_noteLate_5 (by decide) (fun c_1 => ?_) (fun c_1 => ?_)
  · refine lv_aload_n hx hb dX6_noteLate_21 rfl (lv_at hl 0 rfl) ?_
    refine lv_aload_n hx hb dX6_noteLate_22 rfl (lv_at hl 0 rfl) ?_
    refine va_get (D := D) (ci := 6) (v := .ref k5) (C := RX6) (T := TX6) (N := 12) hx hb hts (fun _ h => List.mem_cons_of_mem _ (List.mem_append_left _ (List.mem_append_right _ h))) hown hK hP 0 rfl rfl 5 (by decide) (hts (.fieldLink RX6 26 "LitmusHall$Reader" "starts" "[I") (by decide +kernel)) (fun _ h9 => h9) rfl dX6_noteLate_23 ?_
    refine lv_iload_n hx hb dX6_noteLate_26 rfl (lv_at hl 1 rfl) ?_
    refine gy_ild (i := t) hx hb hK hP 1 rfl (by omega) (by omega) dX6_noteLate_27 ?_
    refine va_put (D := D) (ci := 6) (v := .int (sf t)) (ty := .int) (C := RX6) (T := TX6) (N := 12) hx hb hts (fun _ h => List.mem_cons_of_mem _ (List.mem_append_left _ (List.mem_append_right _ h))) tyX6 tyX6_ok nmX6 hown hK hP hD hS 0 rfl rfl 3 (by decide) (hts (.fieldLink RX6 42 "LitmusHall$Reader" "latePlace" "I") (by decide +kernel)) (fun _ h9 => h9) rfl (by decide +kernel) rfl rfl (Nat.le_of_ble_eq_true rfl) dX6_noteLate_28 (fun H locs hP hD hS => ?_)
    have hP : va_P D vwCl [(h0, .inr (6, [v0, v1, v2, .int (sf t), v4, .ref k5, v6, v7, v8, v9, v10, v11])), (k5, .inl (cI, 501, .inl sf))] H := hP
    have hD : va_D A [(h0, .inr (6, [v0, v1, v2, .int (sf t), v4, .ref k5, v6, v7, v8, v9, v10, v11])), (k5, .inl (cI, 501, .inl sf))] := hD
    exact gx_vret (w' := [(h0, .inr (6, [v0, v1, v2, .int (sf t), v4, .ref k5, v6, v7, v8, v9, v10, v11])), (k5, .inl (cI, 501, .inl sf))]) hx hb hr hlk hK hP hD hS (Nat.le_of_ble_eq_true rfl) (Nat.le_of_ble_eq_true rfl) dX6_noteLate_31 ⟨(sf t), (by first | exact hsf | exact c_1), rfl⟩
  · refine lv_aload_n hx hb dX6_noteLate_8 rfl (lv_at hl 0 rfl) ?_
    refine va_get (D := D) (ci := 6) (v := .ref k5) (C := RX6) (T := TX6) (N := 12) hx hb hts (fun _ h => List.mem_cons_of_mem _ (List.mem_append_left _ (List.mem_append_right _ h))) hown hK hP 0 rfl rfl 5 (by decide) (hts (.fieldLink RX6 26 "LitmusHall$Reader" "starts" "[I") (by decide +kernel)) (fun _ h9 => h9) rfl dX6_noteLate_9 ?_
    refine lv_iload_n hx hb dX6_noteLate_12 rfl (lv_at hl 1 rfl) ?_
    refine gy_ild (i := t) hx hb hK hP 1 rfl (by omega) (by omega) dX6_noteLate_13 ?_
    refine lv_aload_n hx hb dX6_noteLate_14 rfl (lv_at hl 0 rfl) ?_
    refine va_get (D := D) (ci := 6) (v := .int lp) (C := RX6) (T := TX6) (N := 12) hx hb hts (fun _ h => List.mem_cons_of_mem _ (List.mem_append_left _ (List.mem_append_right _ h))) hown hK hP 0 rfl rfl 3 (by decide) (hts (.fieldLink RX6 42 "LitmusHall$Reader" "latePlace" "I") (by decide +kernel)) (fun _ h9 => h9) rfl dX6_noteLate_15 ?_
    refine lv_icmp_ge (tgt := 31) hx hb dX6_noteLate_18 (by decide) (fun c_2 => ?_) (fun c_2 => ?_)
    · exact gx_vret (w' := [(h0, .inr (6, [v0, v1, v2, .int lp, v4, .ref k5, v6, v7, v8, v9, v10, v11])), (k5, .inl (cI, 501, .inl sf))]) hx hb hr hlk hK hP hD hS (Nat.le_of_ble_eq_true rfl) (Nat.le_of_ble_eq_true rfl) dX6_noteLate_31 ⟨lp, (by first | exact hsf | exact c_1), rfl⟩
    · refine lv_aload_n hx hb dX6_noteLate_21 rfl (lv_at hl 0 rfl) ?_
      refine lv_aload_n hx hb dX6_noteLate_22 rfl (lv_at hl 0 rfl) ?_
      refine va_get (D := D) (ci := 6) (v := .ref k5) (C := RX6) (T := TX6) (N := 12) hx hb hts (fun _ h => List.mem_cons_of_mem _ (List.mem_append_left _ (List.mem_append_right _ h))) hown hK hP 0 rfl rfl 5 (by decide) (hts (.fieldLink RX6 26 "LitmusHall$Reader" "starts" "[I") (by decide +kernel)) (fun _ h9 => h9) rfl dX6_noteLate_23 ?_
      refine lv_iload_n hx hb dX6_noteLate_26 rfl (lv_at hl 1 rfl) ?_
      refine gy_ild (i := t) hx hb hK hP 1 rfl (by omega) (by omega) dX6_noteLate_27 ?_
      refine va_put (D := D) (ci := 6) (v := .int (sf t)) (ty := .int) (C := RX6) (T := TX6) (N := 12) hx hb hts (fun _ h => List.mem_cons_of_mem _ (List.mem_append_left _ (List.mem_append_right _ h))) tyX6 tyX6_ok nmX6 hown hK hP hD hS 0 rfl rfl 3 (by decide) (hts (.fieldLink RX6 42 "LitmusHall$Reader" "latePlace" "I") (by decide +kernel)) (fun _ h9 => h9) rfl (by decide +kernel) rfl rfl (Nat.le_of_ble_eq_true rfl) dX6_noteLate_28 (fun H locs hP hD hS => ?_)
      have hP : va_P D vwCl [(h0, .inr (6, [v0, v1, v2, .int (sf t), v4, .ref k5, v6, v7, v8, v9, v10, v11])), (k5, .inl (cI, 501, .inl sf))] H := hP
      have hD : va_D A [(h0, .inr (6, [v0, v1, v2, .int (sf t), v4, .ref k5, v6, v7, v8, v9, v10, v11])), (k5, .inl (cI, 501, .inl sf))] := hD
      exact gx_vret (w' := [(h0, .inr (6, [v0, v1, v2, .int (sf t), v4, .ref k5, v6, v7, v8, v9, v10, v11])), (k5, .inl (cI, 501, .inl sf))]) hx hb hr hlk hK hP hD hS (Nat.le_of_ble_eq_true rfl) (Nat.le_of_ble_eq_true rfl) dX6_noteLate_31 ⟨(sf t), (by first | exact hsf | exact c_1), rfl⟩
theorem gTk0 {z fv fv9 x : Int32} {t t9 k : Nat} (h : (z = 0 ∧ t9 = t ∧ ¬ fv9 = 0) ∨ (z = 1 ∧ t9 = t + 1 ∧ t < 500 ∧ nI k = x ∧ fv9 = fv)) (ht : t ≤ 500) : t ≤ t9 ∧ t9 ≤ 500 := by
  rcases h with ⟨_, h, _⟩ | ⟨_, h, h2, _⟩ <;> omega
theorem gTk1 {z fv fv9 x : Int32} {t t9 k : Nat} (h : (z = 0 ∧ t9 = t ∧ ¬ fv9 = 0) ∨ (z = 1 ∧ t9 = t + 1 ∧ t < 500 ∧ nI k = x ∧ fv9 = fv)) : z = 0 ∨ z = 1 := h.imp And.left And.left
theorem gTk2 {z fv fv9 x : Int32} {t t9 k : Nat} {X : Prop} (h : (z = 0 ∧ t9 = t ∧ ¬ fv9 = 0) ∨ (z = 1 ∧ t9 = t + 1 ∧ t < 500 ∧ nI k = x ∧ fv9 = fv)) (hX : X) : (z = 0 ∧ ¬ fv9 = 0) ∨ (z = 1 ∧ fv9 = fv ∧ t < t9 ∧ X) := by
  rcases h with ⟨a, _, b⟩ | ⟨a, b, _, _, c⟩
  · exact Or.inl ⟨a, b⟩
  · exact Or.inr ⟨a, c, by omega, hX⟩
theorem gTk3 {z fv fv9 x : Int32} {t t9 k : Nat} {X : Prop} (h : (z = 0 ∧ t9 = t ∧ ¬ fv9 = 0) ∨ (z = 1 ∧ t9 = t + 1 ∧ t < 500 ∧ nI k = x ∧ fv9 = fv)) (hX : nI k = x → X) : (z = 0 ∧ ¬ fv9 = 0) ∨ (z = 1 ∧ fv9 = fv ∧ t < t9 ∧ X) := by
  rcases h with ⟨a, _, b⟩ | ⟨a, b, _, d, c⟩
  · exact Or.inl ⟨a, b⟩
  · exact Or.inr ⟨a, c, by omega, hX d⟩
theorem gTk4 {z fv0 fv fv9 : Int32} {t0 t t9 : Nat} {X : Prop} (h : (z = 0 ∧ ¬ fv9 = 0) ∨ (z = 1 ∧ fv9 = fv ∧ t < t9 ∧ X)) (hf : fv = fv0) (ht : t0 ≤ t) : (z = 0 ∧ ¬ fv9 = 0) ∨ (z = 1 ∧ fv9 = fv0 ∧ t0 < t9 ∧ X) := by
  rcases h with h | ⟨a, b, c, d⟩
  · exact Or.inl h
  · exact Or.inr ⟨a, b.trans hf, by omega, d⟩
theorem gTkY {z : Int32} {P Q : Prop} (h : (z = 0 ∧ P) ∨ (z = 1 ∧ Q)) (hz : ¬ z = 0) : Q := (h.resolve_left (fun q => hz q.1)).2
def wsP_c_takeReg : List Cond := .code yX6_takeReg cX6_takeReg 2 (some .boolean) :: (([.fieldLink RX6 22 "LitmusHall$Reader" "kinds" "[I", .fieldLink RX6 45 "LitmusHall$Reader" "at" "I", .methodLink RX6 96 yX6_fail, .instanceMethod yX6_fail, .selects RX6 yX6_fail yX6_fail, .initialized RX6, .fieldLink RX6 122 "LitmusHall$Reader" "valueReg" "I", .methodLink RX6 102 yX6_take, .instanceMethod yX6_take, .selects RX6 yX6_take yX6_take] ++ wsX60) ++ (wsP_c_fail ++ (wsP_e_take ++ [])))
theorem gW_c_takeReg : wsP_c_takeReg.all goodWord = true := by unfold wsP_c_takeReg; exact gw_mk (by decide +kernel) (gw_app gW_c_fail (gw_app gW_e_take rfl))
set_option maxRecDepth 20000 in
theorem gP_c_takeReg__c_fail : GoodIn wsP_c_takeReg (wsV RX6 96 RX6 yX6_fail wsP_c_fail) := gw_in (pre := [.methodLink RX6 96 yX6_fail, .instanceMethod yX6_fail, .selects RX6 yX6_fail yX6_fail, .initialized RX6]) (by decide +kernel) (fun _ h => List.mem_cons_of_mem _ (List.mem_append_right _ (List.mem_append_left _ h))) gW_c_fail
set_option maxRecDepth 20000 in
theorem gP_c_takeReg__e_take : GoodIn wsP_c_takeReg (wsV RX6 102 RX6 yX6_take wsP_e_take) := gw_in (pre := [.methodLink RX6 102 yX6_take, .instanceMethod yX6_take, .selects RX6 yX6_take yX6_take, .initialized RX6]) (by decide +kernel) (fun _ h => List.mem_cons_of_mem _ (List.mem_append_right _ (List.mem_append_right _ (List.mem_append_left _ h)))) gW_e_take
set_option maxHeartbeats 4000000 in
set_option maxRecDepth 100000 in
theorem c_takeReg (l : Launch) (D : va_G) (cI cB cZ : ClassId) (h0 : Nat) (k4 : Nat) (k5 : Nat) (k6 : Nat) (v0 : Value) (v3 : Value) (v7 : Value) (v9 : Value) (v11 : Value) (pv : Int32) (fv : Int32) (Kd : Nat → Nat) (sf : Nat → Int32) (nf : Nat → Int32) (t : Nat) (vr : Int32) (ht : t ≤ 500) (hR : gRdI Kd nf sf) : gMi l yX6_takeReg wsP_c_takeReg ({ frames := 2, cells := 0, slots := 0, locals := 42 }) D cI cB cZ [] [.ref h0] [(h0, .inr (6, [v0, .int pv, .int fv, v3, .ref k4, .ref k5, .ref k6, v7, .int (nI t), v9, .int vr, v11])), (k4, .inl (cI, 501, .inl (fun j => nI (Kd j)))), (k5, .inl (cI, 501, .inl sf)), (k6, .inl (cI, 501, .inl nf))] (fun r9 w9 => ∃ z : Int32, ∃ pv9 : Int32, ∃ fv9 : Int32, ∃ t9 : Nat, ∃ vr9 : Int32, ((z = 0 ∧ ¬ fv9 = 0) ∨ (z = 1 ∧ fv9 = fv ∧ t < t9 ∧ (∃ r, r < 3 ∧ vr9 = nI r))) ∧ (t ≤ t9 ∧ t9 ≤ 500) ∧ r9 = z ∧ w9 = [(h0, .inr (6, [v0, .int pv9, .int fv9, v3, .ref k4, .ref k5, .ref k6, v7, .int (nI t9), v9, .int vr9, v11])), (k4, .inl (cI, 501, .inl (fun j => nI (Kd j)))), (k5, .inl (cI, 501, .inl sf)), (k6, .inl (cI, 501, .inl nf))]) := by
  refine gMi.of (cc := cX6_takeReg) (maxL := 2) (ret := (some .boolean)) (by decide) rfl (Nat.le_of_ble_eq_true rfl) (fun p e s m below meth c A ls hx hb hr hlk hml hts hown hin hA hP hK hD hS hN hl => ?_)
  have hown : s.vm.findClass RX6 = some m.cls := hown
  have hl : lv_has ls 2 [(0, .ref h0)] := hl
  have hKt := hR.1 t (by omega)
  refine lv_aload_n hx hb dX6_takeReg_0 rfl (lv_at hl 0 rfl) ?_
  refine va_get (D := D) (ci := 6) (v := .ref k4) (C := RX6) (T := TX6) (N := 12) hx hb hts (fun _ h => List.mem_cons_of_mem _ (List.mem_append_left _ (List.mem_append_right _ h))) hown hK hP 0 rfl rfl 4 (by decide) (hts (.fieldLink RX6 22 "LitmusHall$Reader" "kinds" "[I") (by decide +kernel)) (fun _ h9 => h9) rfl dX6_takeReg_1 ?_
  refine lv_aload_n hx hb dX6_takeReg_4 rfl (lv_at hl 0 rfl) ?_
  refine va_get (D := D) (ci := 6) (v := .int (nI t)) (C := RX6) (T := TX6) (N := 12) hx hb hts (fun _ h => List.mem_cons_of_mem _ (List.mem_append_left _ (List.mem_append_right _ h))) hown hK hP 0 rfl rfl 8 (by decide) (hts (.fieldLink RX6 45 "LitmusHall$Reader" "at" "I") (by decide +kernel)) (fun _ h9 => h9) rfl dX6_takeReg_5 ?_
  refine gy_ild (i := t) hx hb hK hP 1 rfl (by omega) (by omega) dX6_takeReg_8 ?_
  refine gx_top (y := nI (Kd t)) rfl ?_
  refine lv_istore_n (lv' := [(1, .int (nI (Kd t))), (0, .ref h0)]) hx hb dX6_takeReg_9 rfl hl (by decide) rfl (fun ls hl => ?_)
  refine lv_iload_n hx hb dX6_takeReg_10 rfl (lv_at hl 0 rfl) ?_
  refine lv_bipush (v := 13) hx hb dX6_takeReg_11 (by decide) ?_
  refine gy_lt (a := (Kd t)) (b := 13) (tgt := 22) hx hb (by omega) (by omega) dX6_takeReg_13 (by decide) (fun c_1 => ?_) (fun c_1 => ?_)
  · refine lv_aload_n hx hb dX6_takeReg_22 rfl (lv_at hl 1 rfl) ?_
    refine lv_iconst (v := 1) hx hb dX6_takeReg_23 (by decide) ?_
    refine gx_goi (wc := [(h0, .inr (6, [v0, .int pv, .int fv, v3, .ref k4, .ref k5, .ref k6, v7, .int (nI t), v9, .int vr, v11])), (k5, .inl (cI, 501, .inl sf))]) (wr := [(k4, .inl (cI, 501, .inl (fun j => nI (Kd j)))), (k6, .inl (cI, 501, .inl nf))]) (va_runV (As := [.int 1]) (rest := []) ⟨hx, hb, hml, hown, hts⟩ (c_fail l D cI cB cZ h0 k5 (v0) (v3) (.ref k4) (.ref k6) (v7) (v9) (.int vr) (v11) pv fv sf t 1 (by omega) _) (cwV 1 hts gP_c_takeReg__c_fail rfl rfl rfl (by decide +kernel) ⟨Nat.le_of_ble_eq_true rfl, Nat.le_of_ble_eq_true rfl⟩) (gx_preV (ci := 6) (q0 := 0) hK gN.nil hP hD [0, 2] rfl rfl rfl rfl) rfl rfl hl.1 rfl (lv_room (Nat.le_of_ble_eq_true rfl)) dX6_takeReg_24 ⟨Nat.le_of_ble_eq_true rfl, Nat.le_of_ble_eq_true rfl⟩) hP hD hS hA [0, 2] [1, 3] rfl rfl rfl (by decide) (fun r1 w1 H locs hp hP hD hS => ?_)
    obtain ⟨h9, rfl⟩ := hp
    have h9 := h9.symm
    subst h9
    have hP : va_P D vwCl [(k4, .inl (cI, 501, .inl (fun j => nI (Kd j)))), (k6, .inl (cI, 501, .inl nf)), (h0, .inr (6, [v0, .int (sf t), .int 1, v3, .ref k4, .ref k5, .ref k6, v7, .int (nI t), v9, .int vr, v11])), (k5, .inl (cI, 501, .inl sf))] H := hP
    have hD : va_D A [(k4, .inl (cI, 501, .inl (fun j => nI (Kd j)))), (k6, .inl (cI, 501, .inl nf)), (h0, .inr (6, [v0, .int (sf t), .int 1, v3, .ref k4, .ref k5, .ref k6, v7, .int (nI t), v9, .int vr, v11])), (k5, .inl (cI, 501, .inl sf))] := hD
    have hP := hP.sub (ws' := [(h0, .inr (6, [v0, .int (sf t), .int 1, v3, .ref k4, .ref k5, .ref k6, v7, .int (nI t), v9, .int vr, v11])), (k4, .inl (cI, 501, .inl (fun j => nI (Kd j)))), (k5, .inl (cI, 501, .inl sf)), (k6, .inl (cI, 501, .inl nf))]) [2, 0, 3, 1] rfl
    have hD := hD.sub (ws' := [(h0, .inr (6, [v0, .int (sf t), .int 1, v3, .ref k4, .ref k5, .ref k6, v7, .int (nI t), v9, .int vr, v11])), (k4, .inl (cI, 501, .inl (fun j => nI (Kd j)))), (k5, .inl (cI, 501, .inl sf)), (k6, .inl (cI, 501, .inl nf))]) [2, 0, 3, 1] (by decide) rfl
    exact gx_zret (w' := [(h0, .inr (6, [v0, .int (sf t), .int 1, v3, .ref k4, .ref k5, .ref k6, v7, .int (nI t), v9, .int vr, v11])), (k4, .inl (cI, 501, .inl (fun j => nI (Kd j)))), (k5, .inl (cI, 501, .inl sf)), (k6, .inl (cI, 501, .inl nf))]) hx hb hr hlk hK hP hD hS (Nat.le_of_ble_eq_true rfl) (Nat.le_of_ble_eq_true rfl) dX6_takeReg_27 rfl ⟨0, (sf t), 1, t, vr, (Or.inl ⟨rfl, by decide⟩), (by omega), rfl, rfl⟩
  · refine lv_iload_n hx hb dX6_takeReg_16 rfl (lv_at hl 0 rfl) ?_
    refine lv_bipush (v := 15) hx hb dX6_takeReg_17 (by decide) ?_
    refine gy_le (a := (Kd t)) (b := 15) (tgt := 28) hx hb (by omega) (by omega) dX6_takeReg_19 (by decide) (fun c_2 => ?_) (fun c_2 => ?_)
    · refine lv_aload_n hx hb dX6_takeReg_28 rfl (lv_at hl 1 rfl) ?_
      refine lv_iload_n hx hb dX6_takeReg_29 rfl (lv_at hl 0 rfl) ?_
      refine lv_bipush (v := 13) hx hb dX6_takeReg_30 (by decide) ?_
      refine lv_isub hx hb dX6_takeReg_32 ?_
      refine gx_top (y := nI ((Kd t) - 13)) (pk_sub (a := Kd t) (b := 13) (by omega)) ?_
      refine va_put (D := D) (ci := 6) (v := .int (nI ((Kd t) - 13))) (ty := .int) (C := RX6) (T := TX6) (N := 12) hx hb hts (fun _ h => List.mem_cons_of_mem _ (List.mem_append_left _ (List.mem_append_right _ h))) tyX6 tyX6_ok nmX6 hown hK hP hD hS 0 rfl rfl 10 (by decide) (hts (.fieldLink RX6 122 "LitmusHall$Reader" "valueReg" "I") (by decide +kernel)) (fun _ h9 => h9) rfl (by decide +kernel) rfl rfl (Nat.le_of_ble_eq_true rfl) dX6_takeReg_33 (fun H locs hP hD hS => ?_)
      have hP : va_P D vwCl [(h0, .inr (6, [v0, .int pv, .int fv, v3, .ref k4, .ref k5, .ref k6, v7, .int (nI t), v9, .int (nI ((Kd t) - 13)), v11])), (k4, .inl (cI, 501, .inl (fun j => nI (Kd j)))), (k5, .inl (cI, 501, .inl sf)), (k6, .inl (cI, 501, .inl nf))] H := hP
      have hD : va_D A [(h0, .inr (6, [v0, .int pv, .int fv, v3, .ref k4, .ref k5, .ref k6, v7, .int (nI t), v9, .int (nI ((Kd t) - 13)), v11])), (k4, .inl (cI, 501, .inl (fun j => nI (Kd j)))), (k5, .inl (cI, 501, .inl sf)), (k6, .inl (cI, 501, .inl nf))] := hD
      refine lv_aload_n hx hb dX6_takeReg_36 rfl (lv_at hl 1 rfl) ?_
      refine lv_iload_n hx hb dX6_takeReg_37 rfl (lv_at hl 0 rfl) ?_
      refine gx_goi (wc := [(h0, .inr (6, [v0, .int pv, .int fv, v3, .ref k4, .ref k5, .ref k6, v7, .int (nI t), v9, .int (nI ((Kd t) - 13)), v11])), (k4, .inl (cI, 501, .inl (fun j => nI (Kd j)))), (k5, .inl (cI, 501, .inl sf))]) (wr := [(k6, .inl (cI, 501, .inl nf))]) (va_runV (As := [.int (nI (Kd t))]) (rest := []) ⟨hx, hb, hml, hown, hts⟩ (e_take l D cI cB cZ h0 k4 k5 (v0) (v3) (.ref k6) (v7) (v9) (.int (nI ((Kd t) - 13))) (v11) pv fv Kd sf t (nI (Kd t)) (by omega) _) (cwV 1 hts gP_c_takeReg__e_take rfl rfl rfl (by decide +kernel) ⟨Nat.le_of_ble_eq_true rfl, Nat.le_of_ble_eq_true rfl⟩) (gx_preV (ci := 6) (q0 := 0) hK gN.nil hP hD [0, 1, 2] rfl rfl rfl rfl) rfl rfl hl.1 rfl (lv_room (Nat.le_of_ble_eq_true rfl)) dX6_takeReg_38 ⟨Nat.le_of_ble_eq_true rfl, Nat.le_of_ble_eq_true rfl⟩) hP hD hS hA [0, 1, 2] [3] rfl rfl rfl (by decide) (fun r1 w1 H locs hp hP hD hS => ?_)
      obtain ⟨e_3, e_4, e_5, e_6, hq_7, h9, rfl⟩ := hp
      have h9 := h9.symm
      subst h9
      have hq_7 : (e_3 = 0 ∧ e_6 = t ∧ ¬ e_5 = 0) ∨ (e_3 = 1 ∧ e_6 = t + 1 ∧ t < 500 ∧ nI (Kd t) = (nI (Kd t)) ∧ e_5 = fv) := hq_7
      have hP : va_P D vwCl [(k6, .inl (cI, 501, .inl nf)), (h0, .inr (6, [v0, .int e_4, .int e_5, v3, .ref k4, .ref k5, .ref k6, v7, .int (nI e_6), v9, .int (nI ((Kd t) - 13)), v11])), (k4, .inl (cI, 501, .inl (fun j => nI (Kd j)))), (k5, .inl (cI, 501, .inl sf))] H := hP
      have hD : va_D A [(k6, .inl (cI, 501, .inl nf)), (h0, .inr (6, [v0, .int e_4, .int e_5, v3, .ref k4, .ref k5, .ref k6, v7, .int (nI e_6), v9, .int (nI ((Kd t) - 13)), v11])), (k4, .inl (cI, 501, .inl (fun j => nI (Kd j)))), (k5, .inl (cI, 501, .inl sf))] := hD
      have htk := hq_7
      have htt := gTk0 htk (by omega)
      have hP := hP.sub (ws' := [(h0, .inr (6, [v0, .int e_4, .int e_5, v3, .ref k4, .ref k5, .ref k6, v7, .int (nI e_6), v9, .int (nI ((Kd t) - 13)), v11])), (k4, .inl (cI, 501, .inl (fun j => nI (Kd j)))), (k5, .inl (cI, 501, .inl sf)), (k6, .inl (cI, 501, .inl nf))]) [1, 2, 3, 0] rfl
      have hD := hD.sub (ws' := [(h0, .inr (6, [v0, .int e_4, .int e_5, v3, .ref k4, .ref k5, .ref k6, v7, .int (nI e_6), v9, .int (nI ((Kd t) - 13)), v11])), (k4, .inl (cI, 501, .inl (fun j => nI (Kd j)))), (k5, .inl (cI, 501, .inl sf)), (k6, .inl (cI, 501, .inl nf))]) [1, 2, 3, 0] (by decide) rfl
      exact gx_zret (w' := [(h0, .inr (6, [v0, .int e_4, .int e_5, v3, .ref k4, .ref k5, .ref k6, v7, .int (nI e_6), v9, .int (nI ((Kd t) - 13)), v11])), (k4, .inl (cI, 501, .inl (fun j => nI (Kd j)))), (k5, .inl (cI, 501, .inl sf)), (k6, .inl (cI, 501, .inl nf))]) hx hb hr hlk hK hP hD hS (Nat.le_of_ble_eq_true rfl) (Nat.le_of_ble_eq_true rfl) dX6_takeReg_41 (gy_z01 (gTk1 htk)) ⟨e_3, e_4, e_5, e_6, (nI ((Kd t) - 13)), (gTk2 htk ⟨_, by omega, rfl⟩), htt, rfl, rfl⟩
    · refine lv_aload_n hx hb dX6_takeReg_22 rfl (lv_at hl 1 rfl) ?_
      refine lv_iconst (v := 1) hx hb dX6_takeReg_23 (by decide) ?_
      refine gx_goi (wc := [(h0, .inr (6, [v0, .int pv, .int fv, v3, .ref k4, .ref k5, .ref k6, v7, .int (nI t), v9, .int vr, v11])), (k5, .inl (cI, 501, .inl sf))]) (wr := [(k4, .inl (cI, 501, .inl (fun j => nI (Kd j)))), (k6, .inl (cI, 501, .inl nf))]) (va_runV (As := [.int 1]) (rest := []) ⟨hx, hb, hml, hown, hts⟩ (c_fail l D cI cB cZ h0 k5 (v0) (v3) (.ref k4) (.ref k6) (v7) (v9) (.int vr) (v11) pv fv sf t 1 (by omega) _) (cwV 1 hts gP_c_takeReg__c_fail rfl rfl rfl (by decide +kernel) ⟨Nat.le_of_ble_eq_true rfl, Nat.le_of_ble_eq_true rfl⟩) (gx_preV (ci := 6) (q0 := 0) hK gN.nil hP hD [0, 2] rfl rfl rfl rfl) rfl rfl hl.1 rfl (lv_room (Nat.le_of_ble_eq_true rfl)) dX6_takeReg_24 ⟨Nat.le_of_ble_eq_true rfl, Nat.le_of_ble_eq_true rfl⟩) hP hD hS hA [0, 2] [1, 3] rfl rfl rfl (by decide) (fun r1 w1 H locs hp hP hD hS => ?_)
      obtain ⟨h9, rfl⟩ := hp
      have h9 := h9.symm
      subst h9
      have hP : va_P D vwCl [(k4, .inl (cI, 501, .inl (fun j => nI (Kd j)))), (k6, .inl (cI, 501, .inl nf)), (h0, .inr (6, [v0, .int (sf t), .int 1, v3, .ref k4, .ref k5, .ref k6, v7, .int (nI t), v9, .int vr, v11])), (k5, .inl (cI, 501, .inl sf))] H := hP
      have hD : va_D A [(k4, .inl (cI, 501, .inl (fun j => nI (Kd j)))), (k6, .inl (cI, 501, .inl nf)), (h0, .inr (6, [v0, .int (sf t), .int 1, v3, .ref k4, .ref k5, .ref k6, v7, .int (nI t), v9, .int vr, v11])), (k5, .inl (cI, 501, .inl sf))] := hD
      have hP := hP.sub (ws' := [(h0, .inr (6, [v0, .int (sf t), .int 1, v3, .ref k4, .ref k5, .ref k6, v7, .int (nI t), v9, .int vr, v11])), (k4, .inl (cI, 501, .inl (fun j => nI (Kd j)))), (k5, .inl (cI, 501, .inl sf)), (k6, .inl (cI, 501, .inl nf))]) [2, 0, 3, 1] rfl
      have hD := hD.sub (ws' := [(h0, .inr (6, [v0, .int (sf t), .int 1, v3, .ref k4, .ref k5, .ref k6, v7, .int (nI t), v9, .int vr, v11])), (k4, .inl (cI, 501, .inl (fun j => nI (Kd j)))), (k5, .inl (cI, 501, .inl sf)), (k6, .inl (cI, 501, .inl nf))]) [2, 0, 3, 1] (by decide) rfl
      exact gx_zret (w' := [(h0, .inr (6, [v0, .int (sf t), .int 1, v3, .ref k4, .ref k5, .ref k6, v7, .int (nI t), v9, .int vr, v11])), (k4, .inl (cI, 501, .inl (fun j => nI (Kd j)))), (k5, .inl (cI, 501, .inl sf)), (k6, .inl (cI, 501, .inl nf))]) hx hb hr hlk hK hP hD hS (Nat.le_of_ble_eq_true rfl) (Nat.le_of_ble_eq_true rfl) dX6_takeReg_27 rfl ⟨0, (sf t), 1, t, vr, (Or.inl ⟨rfl, by decide⟩), (by omega), rfl, rfl⟩
def wsP_c_takeCell : List Cond := .code yX6_takeCell cX6_takeCell 1 (some .boolean) :: (([.fieldLink RX6 29 "LitmusHall$Reader" "numbers" "[I", .fieldLink RX6 45 "LitmusHall$Reader" "at" "I", .fieldLink RX6 108 "LitmusHall$Reader" "value" "I", .methodLink RX6 102 yX6_take, .instanceMethod yX6_take, .selects RX6 yX6_take yX6_take, .initialized RX6, .methodLink RX6 115 yX6_noteLate, .instanceMethod yX6_noteLate, .selects RX6 yX6_noteLate yX6_noteLate] ++ wsX60) ++ (wsP_e_take ++ (wsP_e_noteLate ++ [])))
theorem gW_c_takeCell : wsP_c_takeCell.all goodWord = true := by unfold wsP_c_takeCell; exact gw_mk (by decide +kernel) (gw_app gW_e_take (gw_app gW_e_noteLate rfl))
set_option maxRecDepth 20000 in
theorem gP_c_takeCell__e_take : GoodIn wsP_c_takeCell (wsV RX6 102 RX6 yX6_take wsP_e_take) := gw_in (pre := [.methodLink RX6 102 yX6_take, .instanceMethod yX6_take, .selects RX6 yX6_take yX6_take, .initialized RX6]) (by decide +kernel) (fun _ h => List.mem_cons_of_mem _ (List.mem_append_right _ (List.mem_append_left _ h))) gW_e_take
set_option maxRecDepth 20000 in
theorem gP_c_takeCell__e_noteLate : GoodIn wsP_c_takeCell (wsV RX6 115 RX6 yX6_noteLate wsP_e_noteLate) := gw_in (pre := [.methodLink RX6 115 yX6_noteLate, .instanceMethod yX6_noteLate, .selects RX6 yX6_noteLate yX6_noteLate, .initialized RX6]) (by decide +kernel) (fun _ h => List.mem_cons_of_mem _ (List.mem_append_right _ (List.mem_append_right _ (List.mem_append_left _ h)))) gW_e_noteLate
set_option maxHeartbeats 4000000 in
set_option maxRecDepth 100000 in
theorem c_takeCell (l : Launch) (D : va_G) (cI cB cZ : ClassId) (h0 : Nat) (k4 : Nat) (k5 : Nat) (k6 : Nat) (v0 : Value) (v7 : Value) (v9 : Value) (v10 : Value) (pv : Int32) (fv : Int32) (Kd : Nat → Nat) (sf : Nat → Int32) (nf : Nat → Int32) (t : Nat) (vl : Int32) (lp : Int32) (ht : t ≤ 500) (hR : gRdI Kd nf sf) : gMi l yX6_takeCell wsP_c_takeCell ({ frames := 2, cells := 0, slots := 0, locals := 42 }) D cI cB cZ [] [.ref h0] [(h0, .inr (6, [v0, .int pv, .int fv, .int lp, .ref k4, .ref k5, .ref k6, v7, .int (nI t), v9, v10, .int vl])), (k4, .inl (cI, 501, .inl (fun j => nI (Kd j)))), (k5, .inl (cI, 501, .inl sf)), (k6, .inl (cI, 501, .inl nf))] (fun r9 w9 => ∃ z : Int32, ∃ pv9 : Int32, ∃ fv9 : Int32, ∃ t9 : Nat, ∃ vl9 : Int32, ∃ lp9 : Int32, ((z = 0 ∧ ¬ fv9 = 0) ∨ (z = 1 ∧ fv9 = fv ∧ t < t9 ∧ (∃ x, x ≤ 999 ∧ vl9 = nI x ∧ (lp9 = (-1) → x < 4)))) ∧ (t ≤ t9 ∧ t9 ≤ 500) ∧ (lp9 = (-1) → lp = (-1)) ∧ r9 = z ∧ w9 = [(h0, .inr (6, [v0, .int pv9, .int fv9, .int lp9, .ref k4, .ref k5, .ref k6, v7, .int (nI t9), v9, v10, .int vl9])), (k4, .inl (cI, 501, .inl (fun j => nI (Kd j)))), (k5, .inl (cI, 501, .inl sf)), (k6, .inl (cI, 501, .inl nf))]) := by
  refine gMi.of (cc := cX6_takeCell) (maxL := 1) (ret := (some .boolean)) (by decide) rfl (Nat.le_of_ble_eq_true rfl) (fun p e s m below meth c A ls hx hb hr hlk hml hts hown hin hA hP hK hD hS hN hl => ?_)
  have hown : s.vm.findClass RX6 = some m.cls := hown
  have hl : lv_has ls 1 [(0, .ref h0)] := hl
  refine lv_aload_n hx hb dX6_takeCell_0 rfl (lv_at hl 0 rfl) ?_
  refine lv_aload_n hx hb dX6_takeCell_1 rfl (lv_at hl 0 rfl) ?_
  refine va_get (D := D) (ci := 6) (v := .ref k6) (C := RX6) (T := TX6) (N := 12) hx hb hts (fun _ h => List.mem_cons_of_mem _ (List.mem_append_left _ (List.mem_append_right _ h))) hown hK hP 0 rfl rfl 6 (by decide) (hts (.fieldLink RX6 29 "LitmusHall$Reader" "numbers" "[I") (by decide +kernel)) (fun _ h9 => h9) rfl dX6_takeCell_2 ?_
  refine lv_aload_n hx hb dX6_takeCell_5 rfl (lv_at hl 0 rfl) ?_
  refine va_get (D := D) (ci := 6) (v := .int (nI t)) (C := RX6) (T := TX6) (N := 12) hx hb hts (fun _ h => List.mem_cons_of_mem _ (List.mem_append_left _ (List.mem_append_right _ h))) hown hK hP 0 rfl rfl 8 (by decide) (hts (.fieldLink RX6 45 "LitmusHall$Reader" "at" "I") (by decide +kernel)) (fun _ h9 => h9) rfl dX6_takeCell_6 ?_
  refine gy_ild (i := t) hx hb hK hP 3 rfl (by omega) (by omega) dX6_takeCell_9 ?_
  refine gx_gene (fun nv9 hnv9 => ?_)
  refine va_put (D := D) (ci := 6) (v := .int nv9) (ty := .int) (C := RX6) (T := TX6) (N := 12) hx hb hts (fun _ h => List.mem_cons_of_mem _ (List.mem_append_left _ (List.mem_append_right _ h))) tyX6 tyX6_ok nmX6 hown hK hP hD hS 0 rfl rfl 11 (by decide) (hts (.fieldLink RX6 108 "LitmusHall$Reader" "value" "I") (by decide +kernel)) (fun _ h9 => h9) rfl (by decide +kernel) rfl rfl (Nat.le_of_ble_eq_true rfl) dX6_takeCell_10 (fun H locs hP hD hS => ?_)
  have hP : va_P D vwCl [(h0, .inr (6, [v0, .int pv, .int fv, .int lp, .ref k4, .ref k5, .ref k6, v7, .int (nI t), v9, v10, .int nv9])), (k4, .inl (cI, 501, .inl (fun j => nI (Kd j)))), (k5, .inl (cI, 501, .inl sf)), (k6, .inl (cI, 501, .inl nf))] H := hP
  have hD : va_D A [(h0, .inr (6, [v0, .int pv, .int fv, .int lp, .ref k4, .ref k5, .ref k6, v7, .int (nI t), v9, v10, .int nv9])), (k4, .inl (cI, 501, .inl (fun j => nI (Kd j)))), (k5, .inl (cI, 501, .inl sf)), (k6, .inl (cI, 501, .inl nf))] := hD
  refine lv_aload_n hx hb dX6_takeCell_13 rfl (lv_at hl 0 rfl) ?_
  refine lv_bipush (v := 16) hx hb dX6_takeCell_14 (by decide) ?_
  refine gx_goi (wc := [(h0, .inr (6, [v0, .int pv, .int fv, .int lp, .ref k4, .ref k5, .ref k6, v7, .int (nI t), v9, v10, .int nv9])), (k4, .inl (cI, 501, .inl (fun j => nI (Kd j)))), (k5, .inl (cI, 501, .inl sf))]) (wr := [(k6, .inl (cI, 501, .inl nf))]) (va_runV (As := [.int 16]) (rest := []) ⟨hx, hb, hml, hown, hts⟩ (e_take l D cI cB cZ h0 k4 k5 (v0) (.int lp) (.ref k6) (v7) (v9) (v10) (.int nv9) pv fv Kd sf t 16 (by omega) _) (cwV 1 hts gP_c_takeCell__e_take rfl rfl rfl (by decide +kernel) ⟨Nat.le_of_ble_eq_true rfl, Nat.le_of_ble_eq_true rfl⟩) (gx_preV (ci := 6) (q0 := 0) hK gN.nil hP hD [0, 1, 2] rfl rfl rfl rfl) rfl rfl hl.1 rfl (lv_room (Nat.le_of_ble_eq_true rfl)) dX6_takeCell_16 ⟨Nat.le_of_ble_eq_true rfl, Nat.le_of_ble_eq_true rfl⟩) hP hD hS hA [0, 1, 2] [3] rfl rfl rfl (by decide) (fun r1 w1 H locs hp hP hD hS => ?_)
  obtain ⟨e_1, e_2, e_3, e_4, hq_5, h9, rfl⟩ := hp
  have h9 := h9.symm
  subst h9
  have hq_5 : (e_1 = 0 ∧ e_4 = t ∧ ¬ e_3 = 0) ∨ (e_1 = 1 ∧ e_4 = t + 1 ∧ t < 500 ∧ nI (Kd t) = 16 ∧ e_3 = fv) := hq_5
  have hP : va_P D vwCl [(k6, .inl (cI, 501, .inl nf)), (h0, .inr (6, [v0, .int e_2, .int e_3, .int lp, .ref k4, .ref k5, .ref k6, v7, .int (nI e_4), v9, v10, .int nv9])), (k4, .inl (cI, 501, .inl (fun j => nI (Kd j)))), (k5, .inl (cI, 501, .inl sf))] H := hP
  have hD : va_D A [(k6, .inl (cI, 501, .inl nf)), (h0, .inr (6, [v0, .int e_2, .int e_3, .int lp, .ref k4, .ref k5, .ref k6, v7, .int (nI e_4), v9, v10, .int nv9])), (k4, .inl (cI, 501, .inl (fun j => nI (Kd j)))), (k5, .inl (cI, 501, .inl sf))] := hD
  have htk := hq_5
  have htt := gTk0 htk (by omega)
  refine lv_if_ne (tgt := 24) hx hb dX6_takeCell_19 (by decide) (fun c_6 => ?_) (fun c_6 => ?_)
  · have hty := gTkY (z := _) (htk.imp id id) c_6
    have hk16 : Kd t = 16 := (nI_eq (a := Kd t) (b := 16) (by have := hR.1 t (by omega); omega) (by decide)).mp (hty.2.2.1)
    obtain ⟨mm, hmm, emm⟩ := hR.2.1 t (by omega) hk16
    obtain rfl : nv9 = nI mm := hnv9.trans emm
    have hl : lv_has ls 1 [(0, .ref h0)] := hl
    refine lv_aload_n hx hb dX6_takeCell_24 rfl (lv_at hl 0 rfl) ?_
    refine va_get (D := D) (ci := 6) (v := .int (nI mm)) (C := RX6) (T := TX6) (N := 12) hx hb hts (fun _ h => List.mem_cons_of_mem _ (List.mem_append_left _ (List.mem_append_right _ h))) hown hK hP 1 rfl rfl 11 (by decide) (hts (.fieldLink RX6 108 "LitmusHall$Reader" "value" "I") (by decide +kernel)) (fun _ h9 => h9) rfl dX6_takeCell_25 ?_
    refine lv_iconst (v := 4) hx hb dX6_takeCell_28 (by decide) ?_
    refine gy_lt (a := mm) (b := 4) (tgt := 42) hx hb (by omega) (by omega) dX6_takeCell_29 (by decide) (fun c_7 => ?_) (fun c_7 => ?_)
    · refine lv_iconst (v := 1) hx hb dX6_takeCell_42 (by decide) ?_
      have hP := hP.sub (ws' := [(h0, .inr (6, [v0, .int e_2, .int e_3, .int lp, .ref k4, .ref k5, .ref k6, v7, .int (nI e_4), v9, v10, .int (nI mm)])), (k4, .inl (cI, 501, .inl (fun j => nI (Kd j)))), (k5, .inl (cI, 501, .inl sf)), (k6, .inl (cI, 501, .inl nf))]) [1, 2, 3, 0] rfl
      have hD := hD.sub (ws' := [(h0, .inr (6, [v0, .int e_2, .int e_3, .int lp, .ref k4, .ref k5, .ref k6, v7, .int (nI e_4), v9, v10, .int (nI mm)])), (k4, .inl (cI, 501, .inl (fun j => nI (Kd j)))), (k5, .inl (cI, 501, .inl sf)), (k6, .inl (cI, 501, .inl nf))]) [1, 2, 3, 0] (by decide) rfl
      exact gx_zret (w' := [(h0, .inr (6, [v0, .int e_2, .int e_3, .int lp, .ref k4, .ref k5, .ref k6, v7, .int (nI e_4), v9, v10, .int (nI mm)])), (k4, .inl (cI, 501, .inl (fun j => nI (Kd j)))), (k5, .inl (cI, 501, .inl sf)), (k6, .inl (cI, 501, .inl nf))]) hx hb hr hlk hK hP hD hS (Nat.le_of_ble_eq_true rfl) (Nat.le_of_ble_eq_true rfl) dX6_takeCell_43 rfl ⟨1, e_2, e_3, e_4, (nI mm), lp, (Or.inr ⟨rfl, hty.2.2.2, by omega, mm, hmm, rfl, by first | exact fun h => absurd h hln | exact fun _ => by omega⟩), htt, (by first | exact fun h => absurd h hln | exact fun h => h), rfl, rfl⟩
    · refine lv_aload_n hx hb dX6_takeCell_32 rfl (lv_at hl 0 rfl) ?_
      refine lv_aload_n hx hb dX6_takeCell_33 rfl (lv_at hl 0 rfl) ?_
      refine va_get (D := D) (ci := 6) (v := .int (nI e_4)) (C := RX6) (T := TX6) (N := 12) hx hb hts (fun _ h => List.mem_cons_of_mem _ (List.mem_append_left _ (List.mem_append_right _ h))) hown hK hP 1 rfl rfl 8 (by decide) (hts (.fieldLink RX6 45 "LitmusHall$Reader" "at" "I") (by decide +kernel)) (fun _ h9 => h9) rfl dX6_takeCell_34 ?_
      refine lv_iconst (v := 1) hx hb dX6_takeCell_37 (by decide) ?_
      refine lv_isub hx hb dX6_takeCell_38 ?_
      refine gx_top (y := nI (e_4 - 1)) (pk_sub (a := e_4) (b := 1) (by omega)) ?_
      refine gx_gov (wc := [(h0, .inr (6, [v0, .int e_2, .int e_3, .int lp, .ref k4, .ref k5, .ref k6, v7, .int (nI e_4), v9, v10, .int (nI mm)])), (k5, .inl (cI, 501, .inl sf))]) (wr := [(k6, .inl (cI, 501, .inl nf)), (k4, .inl (cI, 501, .inl (fun j => nI (Kd j))))]) (va_runV (As := [.int (nI (e_4 - 1))]) (rest := []) ⟨hx, hb, hml, hown, hts⟩ (e_noteLate l D cI cB cZ h0 k5 (v0) (.int e_2) (.int e_3) (.ref k4) (.ref k6) (v7) (.int (nI e_4)) (v9) (v10) (.int (nI mm)) lp sf (e_4 - 1) (by omega) (hR.2.2 _ (by omega)) _) (cwV 1 hts gP_c_takeCell__e_noteLate rfl rfl rfl (by decide +kernel) ⟨Nat.le_of_ble_eq_true rfl, Nat.le_of_ble_eq_true rfl⟩) (gx_preV (ci := 6) (q0 := 0) hK gN.nil hP hD [1, 3] rfl rfl rfl rfl) rfl rfl hl.1 rfl (lv_room (Nat.le_of_ble_eq_true rfl)) dX6_takeCell_39 ⟨Nat.le_of_ble_eq_true rfl, Nat.le_of_ble_eq_true rfl⟩) hP hD hS hA [1, 3] [0, 2] rfl rfl rfl (by decide) (fun w1 H locs hp hP hD hS => ?_)
      obtain ⟨e_8, hq_9, rfl⟩ := hp
      have hq_9 : ¬ e_8 = (-1) := hq_9
      have hP : va_P D vwCl [(k6, .inl (cI, 501, .inl nf)), (k4, .inl (cI, 501, .inl (fun j => nI (Kd j)))), (h0, .inr (6, [v0, .int e_2, .int e_3, .int e_8, .ref k4, .ref k5, .ref k6, v7, .int (nI e_4), v9, v10, .int (nI mm)])), (k5, .inl (cI, 501, .inl sf))] H := hP
      have hD : va_D A [(k6, .inl (cI, 501, .inl nf)), (k4, .inl (cI, 501, .inl (fun j => nI (Kd j)))), (h0, .inr (6, [v0, .int e_2, .int e_3, .int e_8, .ref k4, .ref k5, .ref k6, v7, .int (nI e_4), v9, v10, .int (nI mm)])), (k5, .inl (cI, 501, .inl sf))] := hD
      have hln := hq_9
      refine lv_iconst (v := 1) hx hb dX6_takeCell_42 (by decide) ?_
      have hP := hP.sub (ws' := [(h0, .inr (6, [v0, .int e_2, .int e_3, .int e_8, .ref k4, .ref k5, .ref k6, v7, .int (nI e_4), v9, v10, .int (nI mm)])), (k4, .inl (cI, 501, .inl (fun j => nI (Kd j)))), (k5, .inl (cI, 501, .inl sf)), (k6, .inl (cI, 501, .inl nf))]) [2, 1, 3, 0] rfl
      have hD := hD.sub (ws' := [(h0, .inr (6, [v0, .int e_2, .int e_3, .int e_8, .ref k4, .ref k5, .ref k6, v7, .int (nI e_4), v9, v10, .int (nI mm)])), (k4, .inl (cI, 501, .inl (fun j => nI (Kd j)))), (k5, .inl (cI, 501, .inl sf)), (k6, .inl (cI, 501, .inl nf))]) [2, 1, 3, 0] (by decide) rfl
      exact gx_zret (w' := [(h0, .inr (6, [v0, .int e_2, .int e_3, .int e_8, .ref k4, .ref k5, .ref k6, v7, .int (nI e_4), v9, v10, .int (nI mm)])), (k4, .inl (cI, 501, .inl (fun j => nI (Kd j)))), (k5, .inl (cI, 501, .inl sf)), (k6, .inl (cI, 501, .inl nf))]) hx hb hr hlk hK hP hD hS (Nat.le_of_ble_eq_true rfl) (Nat.le_of_ble_eq_true rfl) dX6_takeCell_43 rfl ⟨1, e_2, e_3, e_4, (nI mm), e_8, (Or.inr ⟨rfl, hty.2.2.2, by omega, mm, hmm, rfl, by first | exact fun h => absurd h hln | exact fun _ => by omega⟩), htt, (by first | exact fun h => absurd h hln | exact fun h => h), rfl, rfl⟩
  · refine lv_iconst (v := 0) hx hb dX6_takeCell_22 (by decide) ?_
    have hP := hP.sub (ws' := [(h0, .inr (6, [v0, .int e_2, .int e_3, .int lp, .ref k4, .ref k5, .ref k6, v7, .int (nI e_4), v9, v10, .int nv9])), (k4, .inl (cI, 501, .inl (fun j => nI (Kd j)))), (k5, .inl (cI, 501, .inl sf)), (k6, .inl (cI, 501, .inl nf))]) [1, 2, 3, 0] rfl
    have hD := hD.sub (ws' := [(h0, .inr (6, [v0, .int e_2, .int e_3, .int lp, .ref k4, .ref k5, .ref k6, v7, .int (nI e_4), v9, v10, .int nv9])), (k4, .inl (cI, 501, .inl (fun j => nI (Kd j)))), (k5, .inl (cI, 501, .inl sf)), (k6, .inl (cI, 501, .inl nf))]) [1, 2, 3, 0] (by decide) rfl
    exact gx_zret (w' := [(h0, .inr (6, [v0, .int e_2, .int e_3, .int lp, .ref k4, .ref k5, .ref k6, v7, .int (nI e_4), v9, v10, .int nv9])), (k4, .inl (cI, 501, .inl (fun j => nI (Kd j)))), (k5, .inl (cI, 501, .inl sf)), (k6, .inl (cI, 501, .inl nf))]) hx hb hr hlk hK hP hD hS (Nat.le_of_ble_eq_true rfl) (Nat.le_of_ble_eq_true rfl) dX6_takeCell_23 rfl ⟨0, e_2, e_3, e_4, nv9, lp, (Or.inl ⟨rfl, by rcases htk with h | h; exact h.2.2; exact absurd (h.1.symm.trans c_6) (by decide)⟩), htt, (fun h => h), rfl, rfl⟩
def wsP_c_takeVal0 : List Cond := .code yX6_takeVal cX6_takeVal 3 (some .boolean) :: (([.fieldLink RX6 22 "LitmusHall$Reader" "kinds" "[I", .fieldLink RX6 45 "LitmusHall$Reader" "at" "I", .fieldLink RX6 122 "LitmusHall$Reader" "valueReg" "I", .fieldLink RX6 29 "LitmusHall$Reader" "numbers" "[I", .fieldLink RX6 108 "LitmusHall$Reader" "value" "I", .methodLink RX6 102 yX6_take, .instanceMethod yX6_take, .selects RX6 yX6_take yX6_take, .initialized RX6] ++ wsX60) ++ (wsP_e_take ++ []))
theorem gW_c_takeVal0 : wsP_c_takeVal0.all goodWord = true := by unfold wsP_c_takeVal0; exact gw_mk (by decide +kernel) (gw_app gW_e_take rfl)
set_option maxRecDepth 20000 in
theorem gP_c_takeVal0__e_take : GoodIn wsP_c_takeVal0 (wsV RX6 102 RX6 yX6_take wsP_e_take) := gw_in (pre := [.methodLink RX6 102 yX6_take, .instanceMethod yX6_take, .selects RX6 yX6_take yX6_take, .initialized RX6]) (by decide +kernel) (fun _ h => List.mem_cons_of_mem _ (List.mem_append_right _ (List.mem_append_left _ h))) gW_e_take
set_option maxHeartbeats 4000000 in
set_option maxRecDepth 100000 in
theorem c_takeVal0 (l : Launch) (D : va_G) (cI cB cZ : ClassId) (h0 : Nat) (k4 : Nat) (k5 : Nat) (k6 : Nat) (v0 : Value) (v3 : Value) (v7 : Value) (v9 : Value) (pv : Int32) (fv : Int32) (Kd : Nat → Nat) (sf : Nat → Int32) (nf : Nat → Int32) (t : Nat) (vl : Int32) (vr : Int32) (ht : t ≤ 500) (hR : gRdI Kd nf sf) : gMi l yX6_takeVal wsP_c_takeVal0 ({ frames := 2, cells := 0, slots := 0, locals := 42 }) D cI cB cZ [] [.ref h0, .int 0] [(h0, .inr (6, [v0, .int pv, .int fv, v3, .ref k4, .ref k5, .ref k6, v7, .int (nI t), v9, .int vr, .int vl])), (k4, .inl (cI, 501, .inl (fun j => nI (Kd j)))), (k5, .inl (cI, 501, .inl sf)), (k6, .inl (cI, 501, .inl nf))] (fun r9 w9 => ∃ z : Int32, ∃ pv9 : Int32, ∃ fv9 : Int32, ∃ t9 : Nat, ∃ vl9 : Int32, ∃ vr9 : Int32, ((z = 0 ∧ ¬ fv9 = 0) ∨ (z = 1 ∧ fv9 = fv ∧ t < t9 ∧ (vr9 = (-1) ∨ ∃ r, r < 3 ∧ vr9 = nI r))) ∧ (t ≤ t9 ∧ t9 ≤ 500) ∧ r9 = z ∧ w9 = [(h0, .inr (6, [v0, .int pv9, .int fv9, v3, .ref k4, .ref k5, .ref k6, v7, .int (nI t9), v9, .int vr9, .int vl9])), (k4, .inl (cI, 501, .inl (fun j => nI (Kd j)))), (k5, .inl (cI, 501, .inl sf)), (k6, .inl (cI, 501, .inl nf))]) := by
  refine gMi.of (cc := cX6_takeVal) (maxL := 3) (ret := (some .boolean)) (by decide) rfl (Nat.le_of_ble_eq_true rfl) (fun p e s m below meth c A ls hx hb hr hlk hml hts hown hin hA hP hK hD hS hN hl => ?_)
  have hown : s.vm.findClass RX6 = some m.cls := hown
  have hl : lv_has ls 3 [(0, .ref h0), (1, .int 0)] := hl
  have hKt := hR.1 t (by omega)
  refine lv_aload_n hx hb dX6_takeVal_0 rfl (lv_at hl 0 rfl) ?_
  refine va_get (D := D) (ci := 6) (v := .ref k4) (C := RX6) (T := TX6) (N := 12) hx hb hts (fun _ h => List.mem_cons_of_mem _ (List.mem_append_left _ (List.mem_append_right _ h))) hown hK hP 0 rfl rfl 4 (by decide) (hts (.fieldLink RX6 22 "LitmusHall$Reader" "kinds" "[I") (by decide +kernel)) (fun _ h9 => h9) rfl dX6_takeVal_1 ?_
  refine lv_aload_n hx hb dX6_takeVal_4 rfl (lv_at hl 0 rfl) ?_
  refine va_get (D := D) (ci := 6) (v := .int (nI t)) (C := RX6) (T := TX6) (N := 12) hx hb hts (fun _ h => List.mem_cons_of_mem _ (List.mem_append_left _ (List.mem_append_right _ h))) hown hK hP 0 rfl rfl 8 (by decide) (hts (.fieldLink RX6 45 "LitmusHall$Reader" "at" "I") (by decide +kernel)) (fun _ h9 => h9) rfl dX6_takeVal_5 ?_
  refine gy_ild (i := t) hx hb hK hP 1 rfl (by omega) (by omega) dX6_takeVal_8 ?_
  refine gx_top (y := nI (Kd t)) rfl ?_
  refine lv_istore_n (lv' := [(2, .int (nI (Kd t))), (0, .ref h0), (1, .int 0)]) hx hb dX6_takeVal_9 rfl hl (by decide) rfl (fun ls hl => ?_)
  refine lv_iload_n hx hb dX6_takeVal_10 rfl (lv_at hl 2 rfl) ?_
  refine lv_if_eq (tgt := 45) hx hb dX6_takeVal_11 (by decide) (fun _ => ?_) (fun c9 => absurd (by decide) c9)
  refine lv_iload_n hx hb dX6_takeVal_45 rfl (lv_at hl 0 rfl) ?_
  refine lv_bipush (v := 20) hx hb dX6_takeVal_46 (by decide) ?_
  refine gy_ne (a := (Kd t)) (b := 20) (tgt := 62) hx hb (by omega) (by omega) dX6_takeVal_48 (by decide) (fun c_1 => ?_) (fun c_1 => ?_)
  · refine lv_aload_n hx hb dX6_takeVal_62 rfl (lv_at hl 1 rfl) ?_
    refine lv_iconst (v := (-1)) hx hb dX6_takeVal_63 (by decide) ?_
    refine va_put (D := D) (ci := 6) (v := .int (-1)) (ty := .int) (C := RX6) (T := TX6) (N := 12) hx hb hts (fun _ h => List.mem_cons_of_mem _ (List.mem_append_left _ (List.mem_append_right _ h))) tyX6 tyX6_ok nmX6 hown hK hP hD hS 0 rfl rfl 10 (by decide) (hts (.fieldLink RX6 122 "LitmusHall$Reader" "valueReg" "I") (by decide +kernel)) (fun _ h9 => h9) rfl (by decide +kernel) rfl rfl (Nat.le_of_ble_eq_true rfl) dX6_takeVal_64 (fun H locs hP hD hS => ?_)
    have hP : va_P D vwCl [(h0, .inr (6, [v0, .int pv, .int fv, v3, .ref k4, .ref k5, .ref k6, v7, .int (nI t), v9, .int (-1), .int vl])), (k4, .inl (cI, 501, .inl (fun j => nI (Kd j)))), (k5, .inl (cI, 501, .inl sf)), (k6, .inl (cI, 501, .inl nf))] H := hP
    have hD : va_D A [(h0, .inr (6, [v0, .int pv, .int fv, v3, .ref k4, .ref k5, .ref k6, v7, .int (nI t), v9, .int (-1), .int vl])), (k4, .inl (cI, 501, .inl (fun j => nI (Kd j)))), (k5, .inl (cI, 501, .inl sf)), (k6, .inl (cI, 501, .inl nf))] := hD
    refine lv_aload_n hx hb dX6_takeVal_67 rfl (lv_at hl 1 rfl) ?_
    refine lv_iload_n hx hb dX6_takeVal_68 rfl (lv_at hl 0 rfl) ?_
    refine lv_bipush (v := 20) hx hb dX6_takeVal_69 (by decide) ?_
    refine gy_ne (a := (Kd t)) (b := 20) (tgt := 87) hx hb (by omega) (by omega) dX6_takeVal_71 (by decide) (fun c_2 => ?_) (fun c_2 => ?_)
    · refine lv_aload_n hx hb dX6_takeVal_87 rfl (lv_at hl 1 rfl) ?_
      refine va_get (D := D) (ci := 6) (v := .ref k6) (C := RX6) (T := TX6) (N := 12) hx hb hts (fun _ h => List.mem_cons_of_mem _ (List.mem_append_left _ (List.mem_append_right _ h))) hown hK hP 0 rfl rfl 6 (by decide) (hts (.fieldLink RX6 29 "LitmusHall$Reader" "numbers" "[I") (by decide +kernel)) (fun _ h9 => h9) rfl dX6_takeVal_88 ?_
      refine lv_aload_n hx hb dX6_takeVal_91 rfl (lv_at hl 1 rfl) ?_
      refine va_get (D := D) (ci := 6) (v := .int (nI t)) (C := RX6) (T := TX6) (N := 12) hx hb hts (fun _ h => List.mem_cons_of_mem _ (List.mem_append_left _ (List.mem_append_right _ h))) hown hK hP 0 rfl rfl 8 (by decide) (hts (.fieldLink RX6 45 "LitmusHall$Reader" "at" "I") (by decide +kernel)) (fun _ h9 => h9) rfl dX6_takeVal_92 ?_
      refine gy_ild (i := t) hx hb hK hP 3 rfl (by omega) (by omega) dX6_takeVal_95 ?_
      refine gx_gen (fun z_3 => ?_)
      refine va_put (D := D) (ci := 6) (v := .int z_3) (ty := .int) (C := RX6) (T := TX6) (N := 12) hx hb hts (fun _ h => List.mem_cons_of_mem _ (List.mem_append_left _ (List.mem_append_right _ h))) tyX6 tyX6_ok nmX6 hown hK hP hD hS 0 rfl rfl 11 (by decide) (hts (.fieldLink RX6 108 "LitmusHall$Reader" "value" "I") (by decide +kernel)) (fun _ h9 => h9) rfl (by decide +kernel) rfl rfl (Nat.le_of_ble_eq_true rfl) dX6_takeVal_96 (fun H locs hP hD hS => ?_)
      have hP : va_P D vwCl [(h0, .inr (6, [v0, .int pv, .int fv, v3, .ref k4, .ref k5, .ref k6, v7, .int (nI t), v9, .int (-1), .int z_3])), (k4, .inl (cI, 501, .inl (fun j => nI (Kd j)))), (k5, .inl (cI, 501, .inl sf)), (k6, .inl (cI, 501, .inl nf))] H := hP
      have hD : va_D A [(h0, .inr (6, [v0, .int pv, .int fv, v3, .ref k4, .ref k5, .ref k6, v7, .int (nI t), v9, .int (-1), .int z_3])), (k4, .inl (cI, 501, .inl (fun j => nI (Kd j)))), (k5, .inl (cI, 501, .inl sf)), (k6, .inl (cI, 501, .inl nf))] := hD
      refine lv_aload_n hx hb dX6_takeVal_99 rfl (lv_at hl 1 rfl) ?_
      refine lv_bipush (v := 16) hx hb dX6_takeVal_100 (by decide) ?_
      refine gx_goi (wc := [(h0, .inr (6, [v0, .int pv, .int fv, v3, .ref k4, .ref k5, .ref k6, v7, .int (nI t), v9, .int (-1), .int z_3])), (k4, .inl (cI, 501, .inl (fun j => nI (Kd j)))), (k5, .inl (cI, 501, .inl sf))]) (wr := [(k6, .inl (cI, 501, .inl nf))]) (va_runV (As := [.int 16]) (rest := []) ⟨hx, hb, hml, hown, hts⟩ (e_take l D cI cB cZ h0 k4 k5 (v0) (v3) (.ref k6) (v7) (v9) (.int (-1)) (.int z_3) pv fv Kd sf t 16 (by omega) _) (cwV 1 hts gP_c_takeVal0__e_take rfl rfl rfl (by decide +kernel) ⟨Nat.le_of_ble_eq_true rfl, Nat.le_of_ble_eq_true rfl⟩) (gx_preV (ci := 6) (q0 := 0) hK gN.nil hP hD [0, 1, 2] rfl rfl rfl rfl) rfl rfl hl.1 rfl (lv_room (Nat.le_of_ble_eq_true rfl)) dX6_takeVal_102 ⟨Nat.le_of_ble_eq_true rfl, Nat.le_of_ble_eq_true rfl⟩) hP hD hS hA [0, 1, 2] [3] rfl rfl rfl (by decide) (fun r1 w1 H locs hp hP hD hS => ?_)
      obtain ⟨e_4, e_5, e_6, e_7, hq_8, h9, rfl⟩ := hp
      have h9 := h9.symm
      subst h9
      have hq_8 : (e_4 = 0 ∧ e_7 = t ∧ ¬ e_6 = 0) ∨ (e_4 = 1 ∧ e_7 = t + 1 ∧ t < 500 ∧ nI (Kd t) = 16 ∧ e_6 = fv) := hq_8
      have hP : va_P D vwCl [(k6, .inl (cI, 501, .inl nf)), (h0, .inr (6, [v0, .int e_5, .int e_6, v3, .ref k4, .ref k5, .ref k6, v7, .int (nI e_7), v9, .int (-1), .int z_3])), (k4, .inl (cI, 501, .inl (fun j => nI (Kd j)))), (k5, .inl (cI, 501, .inl sf))] H := hP
      have hD : va_D A [(k6, .inl (cI, 501, .inl nf)), (h0, .inr (6, [v0, .int e_5, .int e_6, v3, .ref k4, .ref k5, .ref k6, v7, .int (nI e_7), v9, .int (-1), .int z_3])), (k4, .inl (cI, 501, .inl (fun j => nI (Kd j)))), (k5, .inl (cI, 501, .inl sf))] := hD
      have htk := hq_8
      have htt := gTk0 htk (by omega)
      have hP := hP.sub (ws' := [(h0, .inr (6, [v0, .int e_5, .int e_6, v3, .ref k4, .ref k5, .ref k6, v7, .int (nI e_7), v9, .int (-1), .int z_3])), (k4, .inl (cI, 501, .inl (fun j => nI (Kd j)))), (k5, .inl (cI, 501, .inl sf)), (k6, .inl (cI, 501, .inl nf))]) [1, 2, 3, 0] rfl
      have hD := hD.sub (ws' := [(h0, .inr (6, [v0, .int e_5, .int e_6, v3, .ref k4, .ref k5, .ref k6, v7, .int (nI e_7), v9, .int (-1), .int z_3])), (k4, .inl (cI, 501, .inl (fun j => nI (Kd j)))), (k5, .inl (cI, 501, .inl sf)), (k6, .inl (cI, 501, .inl nf))]) [1, 2, 3, 0] (by decide) rfl
      exact gx_zret (w' := [(h0, .inr (6, [v0, .int e_5, .int e_6, v3, .ref k4, .ref k5, .ref k6, v7, .int (nI e_7), v9, .int (-1), .int z_3])), (k4, .inl (cI, 501, .inl (fun j => nI (Kd j)))), (k5, .inl (cI, 501, .inl sf)), (k6, .inl (cI, 501, .inl nf))]) hx hb hr hlk hK hP hD hS (Nat.le_of_ble_eq_true rfl) (Nat.le_of_ble_eq_true rfl) dX6_takeVal_105 (gy_z01 (gTk1 htk)) ⟨e_4, e_5, e_6, e_7, z_3, (-1), (by first | exact gTk2 htk (Or.inl rfl) | exact gTk4 (gTk2 htk (Or.inl rfl)) (gTkY htk0 c_1).2.2.2 htt0.1 | exact gTk4 (gTk2 htk (Or.inl rfl)) (gTkY htk0 c_2).2.2.2 htt0.1), (by omega), rfl, rfl⟩
    · refine lv_aload_n hx hb dX6_takeVal_74 rfl (lv_at hl 1 rfl) ?_
      refine va_get (D := D) (ci := 6) (v := .ref k6) (C := RX6) (T := TX6) (N := 12) hx hb hts (fun _ h => List.mem_cons_of_mem _ (List.mem_append_left _ (List.mem_append_right _ h))) hown hK hP 0 rfl rfl 6 (by decide) (hts (.fieldLink RX6 29 "LitmusHall$Reader" "numbers" "[I") (by decide +kernel)) (fun _ h9 => h9) rfl dX6_takeVal_75 ?_
      refine lv_aload_n hx hb dX6_takeVal_78 rfl (lv_at hl 1 rfl) ?_
      refine va_get (D := D) (ci := 6) (v := .int (nI t)) (C := RX6) (T := TX6) (N := 12) hx hb hts (fun _ h => List.mem_cons_of_mem _ (List.mem_append_left _ (List.mem_append_right _ h))) hown hK hP 0 rfl rfl 8 (by decide) (hts (.fieldLink RX6 45 "LitmusHall$Reader" "at" "I") (by decide +kernel)) (fun _ h9 => h9) rfl dX6_takeVal_79 ?_
      refine gy_ild (i := t) hx hb hK hP 3 rfl (by omega) (by omega) dX6_takeVal_82 ?_
      refine gx_gen (fun z_9 => ?_)
      refine lv_ineg hx hb dX6_takeVal_83 ?_
      refine gx_gen (fun z_10 => ?_)
      refine lv_goto (tgt := 96) hx hb dX6_takeVal_84 (by decide) ?_
      refine va_put (D := D) (ci := 6) (v := .int z_10) (ty := .int) (C := RX6) (T := TX6) (N := 12) hx hb hts (fun _ h => List.mem_cons_of_mem _ (List.mem_append_left _ (List.mem_append_right _ h))) tyX6 tyX6_ok nmX6 hown hK hP hD hS 0 rfl rfl 11 (by decide) (hts (.fieldLink RX6 108 "LitmusHall$Reader" "value" "I") (by decide +kernel)) (fun _ h9 => h9) rfl (by decide +kernel) rfl rfl (Nat.le_of_ble_eq_true rfl) dX6_takeVal_96 (fun H locs hP hD hS => ?_)
      have hP : va_P D vwCl [(h0, .inr (6, [v0, .int pv, .int fv, v3, .ref k4, .ref k5, .ref k6, v7, .int (nI t), v9, .int (-1), .int z_10])), (k4, .inl (cI, 501, .inl (fun j => nI (Kd j)))), (k5, .inl (cI, 501, .inl sf)), (k6, .inl (cI, 501, .inl nf))] H := hP
      have hD : va_D A [(h0, .inr (6, [v0, .int pv, .int fv, v3, .ref k4, .ref k5, .ref k6, v7, .int (nI t), v9, .int (-1), .int z_10])), (k4, .inl (cI, 501, .inl (fun j => nI (Kd j)))), (k5, .inl (cI, 501, .inl sf)), (k6, .inl (cI, 501, .inl nf))] := hD
      refine lv_aload_n hx hb dX6_takeVal_99 rfl (lv_at hl 1 rfl) ?_
      refine lv_bipush (v := 16) hx hb dX6_takeVal_100 (by decide) ?_
      refine gx_goi (wc := [(h0, .inr (6, [v0, .int pv, .int fv, v3, .ref k4, .ref k5, .ref k6, v7, .int (nI t), v9, .int (-1), .int z_10])), (k4, .inl (cI, 501, .inl (fun j => nI (Kd j)))), (k5, .inl (cI, 501, .inl sf))]) (wr := [(k6, .inl (cI, 501, .inl nf))]) (va_runV (As := [.int 16]) (rest := []) ⟨hx, hb, hml, hown, hts⟩ (e_take l D cI cB cZ h0 k4 k5 (v0) (v3) (.ref k6) (v7) (v9) (.int (-1)) (.int z_10) pv fv Kd sf t 16 (by omega) _) (cwV 1 hts gP_c_takeVal0__e_take rfl rfl rfl (by decide +kernel) ⟨Nat.le_of_ble_eq_true rfl, Nat.le_of_ble_eq_true rfl⟩) (gx_preV (ci := 6) (q0 := 0) hK gN.nil hP hD [0, 1, 2] rfl rfl rfl rfl) rfl rfl hl.1 rfl (lv_room (Nat.le_of_ble_eq_true rfl)) dX6_takeVal_102 ⟨Nat.le_of_ble_eq_true rfl, Nat.le_of_ble_eq_true rfl⟩) hP hD hS hA [0, 1, 2] [3] rfl rfl rfl (by decide) (fun r1 w1 H locs hp hP hD hS => ?_)
      obtain ⟨e_11, e_12, e_13, e_14, hq_15, h9, rfl⟩ := hp
      have h9 := h9.symm
      subst h9
      have hq_15 : (e_11 = 0 ∧ e_14 = t ∧ ¬ e_13 = 0) ∨ (e_11 = 1 ∧ e_14 = t + 1 ∧ t < 500 ∧ nI (Kd t) = 16 ∧ e_13 = fv) := hq_15
      have hP : va_P D vwCl [(k6, .inl (cI, 501, .inl nf)), (h0, .inr (6, [v0, .int e_12, .int e_13, v3, .ref k4, .ref k5, .ref k6, v7, .int (nI e_14), v9, .int (-1), .int z_10])), (k4, .inl (cI, 501, .inl (fun j => nI (Kd j)))), (k5, .inl (cI, 501, .inl sf))] H := hP
      have hD : va_D A [(k6, .inl (cI, 501, .inl nf)), (h0, .inr (6, [v0, .int e_12, .int e_13, v3, .ref k4, .ref k5, .ref k6, v7, .int (nI e_14), v9, .int (-1), .int z_10])), (k4, .inl (cI, 501, .inl (fun j => nI (Kd j)))), (k5, .inl (cI, 501, .inl sf))] := hD
      have htk := hq_15
      have htt := gTk0 htk (by omega)
      have hP := hP.sub (ws' := [(h0, .inr (6, [v0, .int e_12, .int e_13, v3, .ref k4, .ref k5, .ref k6, v7, .int (nI e_14), v9, .int (-1), .int z_10])), (k4, .inl (cI, 501, .inl (fun j => nI (Kd j)))), (k5, .inl (cI, 501, .inl sf)), (k6, .inl (cI, 501, .inl nf))]) [1, 2, 3, 0] rfl
      have hD := hD.sub (ws' := [(h0, .inr (6, [v0, .int e_12, .int e_13, v3, .ref k4, .ref k5, .ref k6, v7, .int (nI e_14), v9, .int (-1), .int z_10])), (k4, .inl (cI, 501, .inl (fun j => nI (Kd j)))), (k5, .inl (cI, 501, .inl sf)), (k6, .inl (cI, 501, .inl nf))]) [1, 2, 3, 0] (by decide) rfl
      exact gx_zret (w' := [(h0, .inr (6, [v0, .int e_12, .int e_13, v3, .ref k4, .ref k5, .ref k6, v7, .int (nI e_14), v9, .int (-1), .int z_10])), (k4, .inl (cI, 501, .inl (fun j => nI (Kd j)))), (k5, .inl (cI, 501, .inl sf)), (k6, .inl (cI, 501, .inl nf))]) hx hb hr hlk hK hP hD hS (Nat.le_of_ble_eq_true rfl) (Nat.le_of_ble_eq_true rfl) dX6_takeVal_105 (gy_z01 (gTk1 htk)) ⟨e_11, e_12, e_13, e_14, z_10, (-1), (by first | exact gTk2 htk (Or.inl rfl) | exact gTk4 (gTk2 htk (Or.inl rfl)) (gTkY htk0 c_1).2.2.2 htt0.1 | exact gTk4 (gTk2 htk (Or.inl rfl)) (gTkY htk0 c_2).2.2.2 htt0.1), (by omega), rfl, rfl⟩
  · refine lv_aload_n hx hb dX6_takeVal_51 rfl (lv_at hl 1 rfl) ?_
    refine lv_bipush (v := 20) hx hb dX6_takeVal_52 (by decide) ?_
    refine gx_goi (wc := [(h0, .inr (6, [v0, .int pv, .int fv, v3, .ref k4, .ref k5, .ref k6, v7, .int (nI t), v9, .int vr, .int vl])), (k4, .inl (cI, 501, .inl (fun j => nI (Kd j)))), (k5, .inl (cI, 501, .inl sf))]) (wr := [(k6, .inl (cI, 501, .inl nf))]) (va_runV (As := [.int 20]) (rest := []) ⟨hx, hb, hml, hown, hts⟩ (e_take l D cI cB cZ h0 k4 k5 (v0) (v3) (.ref k6) (v7) (v9) (.int vr) (.int vl) pv fv Kd sf t 20 (by omega) _) (cwV 1 hts gP_c_takeVal0__e_take rfl rfl rfl (by decide +kernel) ⟨Nat.le_of_ble_eq_true rfl, Nat.le_of_ble_eq_true rfl⟩) (gx_preV (ci := 6) (q0 := 0) hK gN.nil hP hD [0, 1, 2] rfl rfl rfl rfl) rfl rfl hl.1 rfl (lv_room (Nat.le_of_ble_eq_true rfl)) dX6_takeVal_54 ⟨Nat.le_of_ble_eq_true rfl, Nat.le_of_ble_eq_true rfl⟩) hP hD hS hA [0, 1, 2] [3] rfl rfl rfl (by decide) (fun r1 w1 H locs hp hP hD hS => ?_)
    obtain ⟨e_16, e_17, e_18, e_19, hq_20, h9, rfl⟩ := hp
    have h9 := h9.symm
    subst h9
    have hq_20 : (e_16 = 0 ∧ e_19 = t ∧ ¬ e_18 = 0) ∨ (e_16 = 1 ∧ e_19 = t + 1 ∧ t < 500 ∧ nI (Kd t) = 20 ∧ e_18 = fv) := hq_20
    have hP : va_P D vwCl [(k6, .inl (cI, 501, .inl nf)), (h0, .inr (6, [v0, .int e_17, .int e_18, v3, .ref k4, .ref k5, .ref k6, v7, .int (nI e_19), v9, .int vr, .int vl])), (k4, .inl (cI, 501, .inl (fun j => nI (Kd j)))), (k5, .inl (cI, 501, .inl sf))] H := hP
    have hD : va_D A [(k6, .inl (cI, 501, .inl nf)), (h0, .inr (6, [v0, .int e_17, .int e_18, v3, .ref k4, .ref k5, .ref k6, v7, .int (nI e_19), v9, .int vr, .int vl])), (k4, .inl (cI, 501, .inl (fun j => nI (Kd j)))), (k5, .inl (cI, 501, .inl sf))] := hD
    have htk0 := hq_20
    have htt0 := gTk0 htk0 (by omega)
    refine lv_if_ne (tgt := 62) hx hb dX6_takeVal_57 (by decide) (fun c_21 => ?_) (fun c_21 => ?_)
    · refine lv_aload_n hx hb dX6_takeVal_62 rfl (lv_at hl 1 rfl) ?_
      refine lv_iconst (v := (-1)) hx hb dX6_takeVal_63 (by decide) ?_
      refine va_put (D := D) (ci := 6) (v := .int (-1)) (ty := .int) (C := RX6) (T := TX6) (N := 12) hx hb hts (fun _ h => List.mem_cons_of_mem _ (List.mem_append_left _ (List.mem_append_right _ h))) tyX6 tyX6_ok nmX6 hown hK hP hD hS 1 rfl rfl 10 (by decide) (hts (.fieldLink RX6 122 "LitmusHall$Reader" "valueReg" "I") (by decide +kernel)) (fun _ h9 => h9) rfl (by decide +kernel) rfl rfl (Nat.le_of_ble_eq_true rfl) dX6_takeVal_64 (fun H locs hP hD hS => ?_)
      have hP : va_P D vwCl [(k6, .inl (cI, 501, .inl nf)), (h0, .inr (6, [v0, .int e_17, .int e_18, v3, .ref k4, .ref k5, .ref k6, v7, .int (nI e_19), v9, .int (-1), .int vl])), (k4, .inl (cI, 501, .inl (fun j => nI (Kd j)))), (k5, .inl (cI, 501, .inl sf))] H := hP
      have hD : va_D A [(k6, .inl (cI, 501, .inl nf)), (h0, .inr (6, [v0, .int e_17, .int e_18, v3, .ref k4, .ref k5, .ref k6, v7, .int (nI e_19), v9, .int (-1), .int vl])), (k4, .inl (cI, 501, .inl (fun j => nI (Kd j)))), (k5, .inl (cI, 501, .inl sf))] := hD
      refine lv_aload_n hx hb dX6_takeVal_67 rfl (lv_at hl 1 rfl) ?_
      refine lv_iload_n hx hb dX6_takeVal_68 rfl (lv_at hl 0 rfl) ?_
      refine lv_bipush (v := 20) hx hb dX6_takeVal_69 (by decide) ?_
      refine gy_ne (a := (Kd t)) (b := 20) (tgt := 87) hx hb (by omega) (by omega) dX6_takeVal_71 (by decide) (fun c_22 => ?_) (fun c_22 => ?_)
      · refine lv_aload_n hx hb dX6_takeVal_87 rfl (lv_at hl 1 rfl) ?_
        refine va_get (D := D) (ci := 6) (v := .ref k6) (C := RX6) (T := TX6) (N := 12) hx hb hts (fun _ h => List.mem_cons_of_mem _ (List.mem_append_left _ (List.mem_append_right _ h))) hown hK hP 1 rfl rfl 6 (by decide) (hts (.fieldLink RX6 29 "LitmusHall$Reader" "numbers" "[I") (by decide +kernel)) (fun _ h9 => h9) rfl dX6_takeVal_88 ?_
        refine lv_aload_n hx hb dX6_takeVal_91 rfl (lv_at hl 1 rfl) ?_
        refine va_get (D := D) (ci := 6) (v := .int (nI e_19)) (C := RX6) (T := TX6) (N := 12) hx hb hts (fun _ h => List.mem_cons_of_mem _ (List.mem_append_left _ (List.mem_append_right _ h))) hown hK hP 1 rfl rfl 8 (by decide) (hts (.fieldLink RX6 45 "LitmusHall$Reader" "at" "I") (by decide +kernel)) (fun _ h9 => h9) rfl dX6_takeVal_92 ?_
        refine gy_ild (i := e_19) hx hb hK hP 0 rfl (by omega) (by omega) dX6_takeVal_95 ?_
        refine gx_gen (fun z_23 => ?_)
        refine va_put (D := D) (ci := 6) (v := .int z_23) (ty := .int) (C := RX6) (T := TX6) (N := 12) hx hb hts (fun _ h => List.mem_cons_of_mem _ (List.mem_append_left _ (List.mem_append_right _ h))) tyX6 tyX6_ok nmX6 hown hK hP hD hS 1 rfl rfl 11 (by decide) (hts (.fieldLink RX6 108 "LitmusHall$Reader" "value" "I") (by decide +kernel)) (fun _ h9 => h9) rfl (by decide +kernel) rfl rfl (Nat.le_of_ble_eq_true rfl) dX6_takeVal_96 (fun H locs hP hD hS => ?_)
        have hP : va_P D vwCl [(k6, .inl (cI, 501, .inl nf)), (h0, .inr (6, [v0, .int e_17, .int e_18, v3, .ref k4, .ref k5, .ref k6, v7, .int (nI e_19), v9, .int (-1), .int z_23])), (k4, .inl (cI, 501, .inl (fun j => nI (Kd j)))), (k5, .inl (cI, 501, .inl sf))] H := hP
        have hD : va_D A [(k6, .inl (cI, 501, .inl nf)), (h0, .inr (6, [v0, .int e_17, .int e_18, v3, .ref k4, .ref k5, .ref k6, v7, .int (nI e_19), v9, .int (-1), .int z_23])), (k4, .inl (cI, 501, .inl (fun j => nI (Kd j)))), (k5, .inl (cI, 501, .inl sf))] := hD
        refine lv_aload_n hx hb dX6_takeVal_99 rfl (lv_at hl 1 rfl) ?_
        refine lv_bipush (v := 16) hx hb dX6_takeVal_100 (by decide) ?_
        refine gx_goi (wc := [(h0, .inr (6, [v0, .int e_17, .int e_18, v3, .ref k4, .ref k5, .ref k6, v7, .int (nI e_19), v9, .int (-1), .int z_23])), (k4, .inl (cI, 501, .inl (fun j => nI (Kd j)))), (k5, .inl (cI, 501, .inl sf))]) (wr := [(k6, .inl (cI, 501, .inl nf))]) (va_runV (As := [.int 16]) (rest := []) ⟨hx, hb, hml, hown, hts⟩ (e_take l D cI cB cZ h0 k4 k5 (v0) (v3) (.ref k6) (v7) (v9) (.int (-1)) (.int z_23) e_17 e_18 Kd sf e_19 16 (by omega) _) (cwV 1 hts gP_c_takeVal0__e_take rfl rfl rfl (by decide +kernel) ⟨Nat.le_of_ble_eq_true rfl, Nat.le_of_ble_eq_true rfl⟩) (gx_preV (ci := 6) (q0 := 0) hK gN.nil hP hD [1, 2, 3] rfl rfl rfl rfl) rfl rfl hl.1 rfl (lv_room (Nat.le_of_ble_eq_true rfl)) dX6_takeVal_102 ⟨Nat.le_of_ble_eq_true rfl, Nat.le_of_ble_eq_true rfl⟩) hP hD hS hA [1, 2, 3] [0] rfl rfl rfl (by decide) (fun r1 w1 H locs hp hP hD hS => ?_)
        obtain ⟨e_24, e_25, e_26, e_27, hq_28, h9, rfl⟩ := hp
        have h9 := h9.symm
        subst h9
        have hq_28 : (e_24 = 0 ∧ e_27 = e_19 ∧ ¬ e_26 = 0) ∨ (e_24 = 1 ∧ e_27 = e_19 + 1 ∧ e_19 < 500 ∧ nI (Kd e_19) = 16 ∧ e_26 = e_18) := hq_28
        have hP : va_P D vwCl [(k6, .inl (cI, 501, .inl nf)), (h0, .inr (6, [v0, .int e_25, .int e_26, v3, .ref k4, .ref k5, .ref k6, v7, .int (nI e_27), v9, .int (-1), .int z_23])), (k4, .inl (cI, 501, .inl (fun j => nI (Kd j)))), (k5, .inl (cI, 501, .inl sf))] H := hP
        have hD : va_D A [(k6, .inl (cI, 501, .inl nf)), (h0, .inr (6, [v0, .int e_25, .int e_26, v3, .ref k4, .ref k5, .ref k6, v7, .int (nI e_27), v9, .int (-1), .int z_23])), (k4, .inl (cI, 501, .inl (fun j => nI (Kd j)))), (k5, .inl (cI, 501, .inl sf))] := hD
        have htk := hq_28
        have htt := gTk0 htk (by omega)
        have hP := hP.sub (ws' := [(h0, .inr (6, [v0, .int e_25, .int e_26, v3, .ref k4, .ref k5, .ref k6, v7, .int (nI e_27), v9, .int (-1), .int z_23])), (k4, .inl (cI, 501, .inl (fun j => nI (Kd j)))), (k5, .inl (cI, 501, .inl sf)), (k6, .inl (cI, 501, .inl nf))]) [1, 2, 3, 0] rfl
        have hD := hD.sub (ws' := [(h0, .inr (6, [v0, .int e_25, .int e_26, v3, .ref k4, .ref k5, .ref k6, v7, .int (nI e_27), v9, .int (-1), .int z_23])), (k4, .inl (cI, 501, .inl (fun j => nI (Kd j)))), (k5, .inl (cI, 501, .inl sf)), (k6, .inl (cI, 501, .inl nf))]) [1, 2, 3, 0] (by decide) rfl
        exact gx_zret (w' := [(h0, .inr (6, [v0, .int e_25, .int e_26, v3, .ref k4, .ref k5, .ref k6, v7, .int (nI e_27), v9, .int (-1), .int z_23])), (k4, .inl (cI, 501, .inl (fun j => nI (Kd j)))), (k5, .inl (cI, 501, .inl sf)), (k6, .inl (cI, 501, .inl nf))]) hx hb hr hlk hK hP hD hS (Nat.le_of_ble_eq_true rfl) (Nat.le_of_ble_eq_true rfl) dX6_takeVal_105 (gy_z01 (gTk1 htk)) ⟨e_24, e_25, e_26, e_27, z_23, (-1), (by first | exact gTk2 htk (Or.inl rfl) | exact gTk4 (gTk2 htk (Or.inl rfl)) (gTkY htk0 c_21).2.2.2 htt0.1 | exact gTk4 (gTk2 htk (Or.inl rfl)) (gTkY htk0 c_22).2.2.2 htt0.1), (by omega), rfl, rfl⟩
      · refine lv_aload_n hx hb dX6_takeVal_74 rfl (lv_at hl 1 rfl) ?_
        refine va_get (D := D) (ci := 6) (v := .ref k6) (C := RX6) (T := TX6) (N := 12) hx hb hts (fun _ h => List.mem_cons_of_mem _ (List.mem_append_left _ (List.mem_append_right _ h))) hown hK hP 1 rfl rfl 6 (by decide) (hts (.fieldLink RX6 29 "LitmusHall$Reader" "numbers" "[I") (by decide +kernel)) (fun _ h9 => h9) rfl dX6_takeVal_75 ?_
        refine lv_aload_n hx hb dX6_takeVal_78 rfl (lv_at hl 1 rfl) ?_
        refine va_get (D := D) (ci := 6) (v := .int (nI e_19)) (C := RX6) (T := TX6) (N := 12) hx hb hts (fun _ h => List.mem_cons_of_mem _ (List.mem_append_left _ (List.mem_append_right _ h))) hown hK hP 1 rfl rfl 8 (by decide) (hts (.fieldLink RX6 45 "LitmusHall$Reader" "at" "I") (by decide +kernel)) (fun _ h9 => h9) rfl dX6_takeVal_79 ?_
        refine gy_ild (i := e_19) hx hb hK hP 0 rfl (by omega) (by omega) dX6_takeVal_82 ?_
        refine gx_gen (fun z_29 => ?_)
        refine lv_ineg hx hb dX6_takeVal_83 ?_
        refine gx_gen (fun z_30 => ?_)
        refine lv_goto (tgt := 96) hx hb dX6_takeVal_84 (by decide) ?_
        refine va_put (D := D) (ci := 6) (v := .int z_30) (ty := .int) (C := RX6) (T := TX6) (N := 12) hx hb hts (fun _ h => List.mem_cons_of_mem _ (List.mem_append_left _ (List.mem_append_right _ h))) tyX6 tyX6_ok nmX6 hown hK hP hD hS 1 rfl rfl 11 (by decide) (hts (.fieldLink RX6 108 "LitmusHall$Reader" "value" "I") (by decide +kernel)) (fun _ h9 => h9) rfl (by decide +kernel) rfl rfl (Nat.le_of_ble_eq_true rfl) dX6_takeVal_96 (fun H locs hP hD hS => ?_)
        have hP : va_P D vwCl [(k6, .inl (cI, 501, .inl nf)), (h0, .inr (6, [v0, .int e_17, .int e_18, v3, .ref k4, .ref k5, .ref k6, v7, .int (nI e_19), v9, .int (-1), .int z_30])), (k4, .inl (cI, 501, .inl (fun j => nI (Kd j)))), (k5, .inl (cI, 501, .inl sf))] H := hP
        have hD : va_D A [(k6, .inl (cI, 501, .inl nf)), (h0, .inr (6, [v0, .int e_17, .int e_18, v3, .ref k4, .ref k5, .ref k6, v7, .int (nI e_19), v9, .int (-1), .int z_30])), (k4, .inl (cI, 501, .inl (fun j => nI (Kd j)))), (k5, .inl (cI, 501, .inl sf))] := hD
        refine lv_aload_n hx hb dX6_takeVal_99 rfl (lv_at hl 1 rfl) ?_
        refine lv_bipush (v := 16) hx hb dX6_takeVal_100 (by decide) ?_
        refine gx_goi (wc := [(h0, .inr (6, [v0, .int e_17, .int e_18, v3, .ref k4, .ref k5, .ref k6, v7, .int (nI e_19), v9, .int (-1), .int z_30])), (k4, .inl (cI, 501, .inl (fun j => nI (Kd j)))), (k5, .inl (cI, 501, .inl sf))]) (wr := [(k6, .inl (cI, 501, .inl nf))]) (va_runV (As := [.int 16]) (rest := []) ⟨hx, hb, hml, hown, hts⟩ (e_take l D cI cB cZ h0 k4 k5 (v0) (v3) (.ref k6) (v7) (v9) (.int (-1)) (.int z_30) e_17 e_18 Kd sf e_19 16 (by omega) _) (cwV 1 hts gP_c_takeVal0__e_take rfl rfl rfl (by decide +kernel) ⟨Nat.le_of_ble_eq_true rfl, Nat.le_of_ble_eq_true rfl⟩) (gx_preV (ci := 6) (q0 := 0) hK gN.nil hP hD [1, 2, 3] rfl rfl rfl rfl) rfl rfl hl.1 rfl (lv_room (Nat.le_of_ble_eq_true rfl)) dX6_takeVal_102 ⟨Nat.le_of_ble_eq_true rfl, Nat.le_of_ble_eq_true rfl⟩) hP hD hS hA [1, 2, 3] [0] rfl rfl rfl (by decide) (fun r1 w1 H locs hp hP hD hS => ?_)
        obtain ⟨e_31, e_32, e_33, e_34, hq_35, h9, rfl⟩ := hp
        have h9 := h9.symm
        subst h9
        have hq_35 : (e_31 = 0 ∧ e_34 = e_19 ∧ ¬ e_33 = 0) ∨ (e_31 = 1 ∧ e_34 = e_19 + 1 ∧ e_19 < 500 ∧ nI (Kd e_19) = 16 ∧ e_33 = e_18) := hq_35
        have hP : va_P D vwCl [(k6, .inl (cI, 501, .inl nf)), (h0, .inr (6, [v0, .int e_32, .int e_33, v3, .ref k4, .ref k5, .ref k6, v7, .int (nI e_34), v9, .int (-1), .int z_30])), (k4, .inl (cI, 501, .inl (fun j => nI (Kd j)))), (k5, .inl (cI, 501, .inl sf))] H := hP
        have hD : va_D A [(k6, .inl (cI, 501, .inl nf)), (h0, .inr (6, [v0, .int e_32, .int e_33, v3, .ref k4, .ref k5, .ref k6, v7, .int (nI e_34), v9, .int (-1), .int z_30])), (k4, .inl (cI, 501, .inl (fun j => nI (Kd j)))), (k5, .inl (cI, 501, .inl sf))] := hD
        have htk := hq_35
        have htt := gTk0 htk (by omega)
        have hP := hP.sub (ws' := [(h0, .inr (6, [v0, .int e_32, .int e_33, v3, .ref k4, .ref k5, .ref k6, v7, .int (nI e_34), v9, .int (-1), .int z_30])), (k4, .inl (cI, 501, .inl (fun j => nI (Kd j)))), (k5, .inl (cI, 501, .inl sf)), (k6, .inl (cI, 501, .inl nf))]) [1, 2, 3, 0] rfl
        have hD := hD.sub (ws' := [(h0, .inr (6, [v0, .int e_32, .int e_33, v3, .ref k4, .ref k5, .ref k6, v7, .int (nI e_34), v9, .int (-1), .int z_30])), (k4, .inl (cI, 501, .inl (fun j => nI (Kd j)))), (k5, .inl (cI, 501, .inl sf)), (k6, .inl (cI, 501, .inl nf))]) [1, 2, 3, 0] (by decide) rfl
        exact gx_zret (w' := [(h0, .inr (6, [v0, .int e_32, .int e_33, v3, .ref k4, .ref k5, .ref k6, v7, .int (nI e_34), v9, .int (-1), .int z_30])), (k4, .inl (cI, 501, .inl (fun j => nI (Kd j)))), (k5, .inl (cI, 501, .inl sf)), (k6, .inl (cI, 501, .inl nf))]) hx hb hr hlk hK hP hD hS (Nat.le_of_ble_eq_true rfl) (Nat.le_of_ble_eq_true rfl) dX6_takeVal_105 (gy_z01 (gTk1 htk)) ⟨e_31, e_32, e_33, e_34, z_30, (-1), (by first | exact gTk2 htk (Or.inl rfl) | exact gTk4 (gTk2 htk (Or.inl rfl)) (gTkY htk0 c_21).2.2.2 htt0.1 | exact gTk4 (gTk2 htk (Or.inl rfl)) (gTkY htk0 c_22).2.2.2 htt0.1), (by omega), rfl, rfl⟩
    · refine lv_iconst (v := 0) hx hb dX6_takeVal_60 (by decide) ?_
      have hP := hP.sub (ws' := [(h0, .inr (6, [v0, .int e_17, .int e_18, v3, .ref k4, .ref k5, .ref k6, v7, .int (nI e_19), v9, .int vr, .int vl])), (k4, .inl (cI, 501, .inl (fun j => nI (Kd j)))), (k5, .inl (cI, 501, .inl sf)), (k6, .inl (cI, 501, .inl nf))]) [1, 2, 3, 0] rfl
      have hD := hD.sub (ws' := [(h0, .inr (6, [v0, .int e_17, .int e_18, v3, .ref k4, .ref k5, .ref k6, v7, .int (nI e_19), v9, .int vr, .int vl])), (k4, .inl (cI, 501, .inl (fun j => nI (Kd j)))), (k5, .inl (cI, 501, .inl sf)), (k6, .inl (cI, 501, .inl nf))]) [1, 2, 3, 0] (by decide) rfl
      exact gx_zret (w' := [(h0, .inr (6, [v0, .int e_17, .int e_18, v3, .ref k4, .ref k5, .ref k6, v7, .int (nI e_19), v9, .int vr, .int vl])), (k4, .inl (cI, 501, .inl (fun j => nI (Kd j)))), (k5, .inl (cI, 501, .inl sf)), (k6, .inl (cI, 501, .inl nf))]) hx hb hr hlk hK hP hD hS (Nat.le_of_ble_eq_true rfl) (Nat.le_of_ble_eq_true rfl) dX6_takeVal_61 rfl ⟨0, e_17, e_18, e_19, vl, vr, (Or.inl ⟨rfl, by rcases htk0 with h | h; exact h.2.2; exact absurd (h.1.symm.trans c_21) (by decide)⟩), htt0, rfl, rfl⟩
def wsP_c_takeVal1 : List Cond := .code yX6_takeVal cX6_takeVal 3 (some .boolean) :: (([.fieldLink RX6 22 "LitmusHall$Reader" "kinds" "[I", .fieldLink RX6 45 "LitmusHall$Reader" "at" "I", .fieldLink RX6 122 "LitmusHall$Reader" "valueReg" "I", .fieldLink RX6 29 "LitmusHall$Reader" "numbers" "[I", .fieldLink RX6 108 "LitmusHall$Reader" "value" "I", .methodLink RX6 102 yX6_take, .instanceMethod yX6_take, .selects RX6 yX6_take yX6_take, .initialized RX6] ++ wsX60) ++ (wsP_e_take ++ []))
theorem gW_c_takeVal1 : wsP_c_takeVal1.all goodWord = true := by unfold wsP_c_takeVal1; exact gw_mk (by decide +kernel) (gw_app gW_e_take rfl)
set_option maxRecDepth 20000 in
theorem gP_c_takeVal1__e_take : GoodIn wsP_c_takeVal1 (wsV RX6 102 RX6 yX6_take wsP_e_take) := gw_in (pre := [.methodLink RX6 102 yX6_take, .instanceMethod yX6_take, .selects RX6 yX6_take yX6_take, .initialized RX6]) (by decide +kernel) (fun _ h => List.mem_cons_of_mem _ (List.mem_append_right _ (List.mem_append_left _ h))) gW_e_take
set_option maxHeartbeats 4000000 in
set_option maxRecDepth 100000 in
theorem c_takeVal1 (l : Launch) (D : va_G) (cI cB cZ : ClassId) (h0 : Nat) (k4 : Nat) (k5 : Nat) (k6 : Nat) (v0 : Value) (v3 : Value) (v7 : Value) (v9 : Value) (pv : Int32) (fv : Int32) (Kd : Nat → Nat) (sf : Nat → Int32) (nf : Nat → Int32) (t : Nat) (vl : Int32) (vr : Int32) (ht : t ≤ 500) (hR : gRdI Kd nf sf) : gMi l yX6_takeVal wsP_c_takeVal1 ({ frames := 2, cells := 0, slots := 0, locals := 42 }) D cI cB cZ [] [.ref h0, .int 1] [(h0, .inr (6, [v0, .int pv, .int fv, v3, .ref k4, .ref k5, .ref k6, v7, .int (nI t), v9, .int vr, .int vl])), (k4, .inl (cI, 501, .inl (fun j => nI (Kd j)))), (k5, .inl (cI, 501, .inl sf)), (k6, .inl (cI, 501, .inl nf))] (fun r9 w9 => ∃ z : Int32, ∃ pv9 : Int32, ∃ fv9 : Int32, ∃ t9 : Nat, ∃ vl9 : Int32, ∃ vr9 : Int32, ((z = 0 ∧ ¬ fv9 = 0) ∨ (z = 1 ∧ fv9 = fv ∧ t < t9 ∧ (vr9 = (-1) ∨ ∃ r, r < 3 ∧ vr9 = nI r))) ∧ (t ≤ t9 ∧ t9 ≤ 500) ∧ r9 = z ∧ w9 = [(h0, .inr (6, [v0, .int pv9, .int fv9, v3, .ref k4, .ref k5, .ref k6, v7, .int (nI t9), v9, .int vr9, .int vl9])), (k4, .inl (cI, 501, .inl (fun j => nI (Kd j)))), (k5, .inl (cI, 501, .inl sf)), (k6, .inl (cI, 501, .inl nf))]) := by
  refine gMi.of (cc := cX6_takeVal) (maxL := 3) (ret := (some .boolean)) (by decide) rfl (Nat.le_of_ble_eq_true rfl) (fun p e s m below meth c A ls hx hb hr hlk hml hts hown hin hA hP hK hD hS hN hl => ?_)
  have hown : s.vm.findClass RX6 = some m.cls := hown
  have hl : lv_has ls 3 [(0, .ref h0), (1, .int 1)] := hl
  have hKt := hR.1 t (by omega)
  refine lv_aload_n hx hb dX6_takeVal_0 rfl (lv_at hl 0 rfl) ?_
  refine va_get (D := D) (ci := 6) (v := .ref k4) (C := RX6) (T := TX6) (N := 12) hx hb hts (fun _ h => List.mem_cons_of_mem _ (List.mem_append_left _ (List.mem_append_right _ h))) hown hK hP 0 rfl rfl 4 (by decide) (hts (.fieldLink RX6 22 "LitmusHall$Reader" "kinds" "[I") (by decide +kernel)) (fun _ h9 => h9) rfl dX6_takeVal_1 ?_
  refine lv_aload_n hx hb dX6_takeVal_4 rfl (lv_at hl 0 rfl) ?_
  refine va_get (D := D) (ci := 6) (v := .int (nI t)) (C := RX6) (T := TX6) (N := 12) hx hb hts (fun _ h => List.mem_cons_of_mem _ (List.mem_append_left _ (List.mem_append_right _ h))) hown hK hP 0 rfl rfl 8 (by decide) (hts (.fieldLink RX6 45 "LitmusHall$Reader" "at" "I") (by decide +kernel)) (fun _ h9 => h9) rfl dX6_takeVal_5 ?_
  refine gy_ild (i := t) hx hb hK hP 1 rfl (by omega) (by omega) dX6_takeVal_8 ?_
  refine gx_top (y := nI (Kd t)) rfl ?_
  refine lv_istore_n (lv' := [(2, .int (nI (Kd t))), (0, .ref h0), (1, .int 1)]) hx hb dX6_takeVal_9 rfl hl (by decide) rfl (fun ls hl => ?_)
  refine lv_iload_n hx hb dX6_takeVal_10 rfl (lv_at hl 2 rfl) ?_
  refine lv_if_eq (tgt := 45) hx hb dX6_takeVal_11 (by decide) (fun c9 => absurd c9 (by decide)) (fun _ => ?_)
  refine lv_iload_n hx hb dX6_takeVal_14 rfl (lv_at hl 0 rfl) ?_
  refine lv_bipush (v := 13) hx hb dX6_takeVal_15 (by decide) ?_
  refine gy_lt (a := (Kd t)) (b := 13) (tgt := 45) hx hb (by omega) (by omega) dX6_takeVal_17 (by decide) (fun c_1 => ?_) (fun c_1 => ?_)
  · refine lv_iload_n hx hb dX6_takeVal_45 rfl (lv_at hl 0 rfl) ?_
    refine lv_bipush (v := 20) hx hb dX6_takeVal_46 (by decide) ?_
    refine gy_ne (a := (Kd t)) (b := 20) (tgt := 62) hx hb (by omega) (by omega) dX6_takeVal_48 (by decide) (fun c_2 => ?_) (fun c_2 => ?_)
    · refine lv_aload_n hx hb dX6_takeVal_62 rfl (lv_at hl 1 rfl) ?_
      refine lv_iconst (v := (-1)) hx hb dX6_takeVal_63 (by decide) ?_
      refine va_put (D := D) (ci := 6) (v := .int (-1)) (ty := .int) (C := RX6) (T := TX6) (N := 12) hx hb hts (fun _ h => List.mem_cons_of_mem _ (List.mem_append_left _ (List.mem_append_right _ h))) tyX6 tyX6_ok nmX6 hown hK hP hD hS 0 rfl rfl 10 (by decide) (hts (.fieldLink RX6 122 "LitmusHall$Reader" "valueReg" "I") (by decide +kernel)) (fun _ h9 => h9) rfl (by decide +kernel) rfl rfl (Nat.le_of_ble_eq_true rfl) dX6_takeVal_64 (fun H locs hP hD hS => ?_)
      have hP : va_P D vwCl [(h0, .inr (6, [v0, .int pv, .int fv, v3, .ref k4, .ref k5, .ref k6, v7, .int (nI t), v9, .int (-1), .int vl])), (k4, .inl (cI, 501, .inl (fun j => nI (Kd j)))), (k5, .inl (cI, 501, .inl sf)), (k6, .inl (cI, 501, .inl nf))] H := hP
      have hD : va_D A [(h0, .inr (6, [v0, .int pv, .int fv, v3, .ref k4, .ref k5, .ref k6, v7, .int (nI t), v9, .int (-1), .int vl])), (k4, .inl (cI, 501, .inl (fun j => nI (Kd j)))), (k5, .inl (cI, 501, .inl sf)), (k6, .inl (cI, 501, .inl nf))] := hD
      refine lv_aload_n hx hb dX6_takeVal_67 rfl (lv_at hl 1 rfl) ?_
      refine lv_iload_n hx hb dX6_takeVal_68 rfl (lv_at hl 0 rfl) ?_
      refine lv_bipush (v := 20) hx hb dX6_takeVal_69 (by decide) ?_
      refine gy_ne (a := (Kd t)) (b := 20) (tgt := 87) hx hb (by omega) (by omega) dX6_takeVal_71 (by decide) (fun c_3 => ?_) (fun c_3 => ?_)
      · refine lv_aload_n hx hb dX6_takeVal_87 rfl (lv_at hl 1 rfl) ?_
        refine va_get (D := D) (ci := 6) (v := .ref k6) (C := RX6) (T := TX6) (N := 12) hx hb hts (fun _ h => List.mem_cons_of_mem _ (List.mem_append_left _ (List.mem_append_right _ h))) hown hK hP 0 rfl rfl 6 (by decide) (hts (.fieldLink RX6 29 "LitmusHall$Reader" "numbers" "[I") (by decide +kernel)) (fun _ h9 => h9) rfl dX6_takeVal_88 ?_
        refine lv_aload_n hx hb dX6_takeVal_91 rfl (lv_at hl 1 rfl) ?_
        refine va_get (D := D) (ci := 6) (v := .int (nI t)) (C := RX6) (T := TX6) (N := 12) hx hb hts (fun _ h => List.mem_cons_of_mem _ (List.mem_append_left _ (List.mem_append_right _ h))) hown hK hP 0 rfl rfl 8 (by decide) (hts (.fieldLink RX6 45 "LitmusHall$Reader" "at" "I") (by decide +kernel)) (fun _ h9 => h9) rfl dX6_takeVal_92 ?_
        refine gy_ild (i := t) hx hb hK hP 3 rfl (by omega) (by omega) dX6_takeVal_95 ?_
        refine gx_gen (fun z_4 => ?_)
        refine va_put (D := D) (ci := 6) (v := .int z_4) (ty := .int) (C := RX6) (T := TX6) (N := 12) hx hb hts (fun _ h => List.mem_cons_of_mem _ (List.mem_append_left _ (List.mem_append_right _ h))) tyX6 tyX6_ok nmX6 hown hK hP hD hS 0 rfl rfl 11 (by decide) (hts (.fieldLink RX6 108 "LitmusHall$Reader" "value" "I") (by decide +kernel)) (fun _ h9 => h9) rfl (by decide +kernel) rfl rfl (Nat.le_of_ble_eq_true rfl) dX6_takeVal_96 (fun H locs hP hD hS => ?_)
        have hP : va_P D vwCl [(h0, .inr (6, [v0, .int pv, .int fv, v3, .ref k4, .ref k5, .ref k6, v7, .int (nI t), v9, .int (-1), .int z_4])), (k4, .inl (cI, 501, .inl (fun j => nI (Kd j)))), (k5, .inl (cI, 501, .inl sf)), (k6, .inl (cI, 501, .inl nf))] H := hP
        have hD : va_D A [(h0, .inr (6, [v0, .int pv, .int fv, v3, .ref k4, .ref k5, .ref k6, v7, .int (nI t), v9, .int (-1), .int z_4])), (k4, .inl (cI, 501, .inl (fun j => nI (Kd j)))), (k5, .inl (cI, 501, .inl sf)), (k6, .inl (cI, 501, .inl nf))] := hD
        refine lv_aload_n hx hb dX6_takeVal_99 rfl (lv_at hl 1 rfl) ?_
        refine lv_bipush (v := 16) hx hb dX6_takeVal_100 (by decide) ?_
        refine gx_goi (wc := [(h0, .inr (6, [v0, .int pv, .int fv, v3, .ref k4, .ref k5, .ref k6, v7, .int (nI t), v9, .int (-1), .int z_4])), (k4, .inl (cI, 501, .inl (fun j => nI (Kd j)))), (k5, .inl (cI, 501, .inl sf))]) (wr := [(k6, .inl (cI, 501, .inl nf))]) (va_runV (As := [.int 16]) (rest := []) ⟨hx, hb, hml, hown, hts⟩ (e_take l D cI cB cZ h0 k4 k5 (v0) (v3) (.ref k6) (v7) (v9) (.int (-1)) (.int z_4) pv fv Kd sf t 16 (by omega) _) (cwV 1 hts gP_c_takeVal1__e_take rfl rfl rfl (by decide +kernel) ⟨Nat.le_of_ble_eq_true rfl, Nat.le_of_ble_eq_true rfl⟩) (gx_preV (ci := 6) (q0 := 0) hK gN.nil hP hD [0, 1, 2] rfl rfl rfl rfl) rfl rfl hl.1 rfl (lv_room (Nat.le_of_ble_eq_true rfl)) dX6_takeVal_102 ⟨Nat.le_of_ble_eq_true rfl, Nat.le_of_ble_eq_true rfl⟩) hP hD hS hA [0, 1, 2] [3] rfl rfl rfl (by decide) (fun r1 w1 H locs hp hP hD hS => ?_)
        obtain ⟨e_5, e_6, e_7, e_8, hq_9, h9, rfl⟩ := hp
        have h9 := h9.symm
        subst h9
        have hq_9 : (e_5 = 0 ∧ e_8 = t ∧ ¬ e_7 = 0) ∨ (e_5 = 1 ∧ e_8 = t + 1 ∧ t < 500 ∧ nI (Kd t) = 16 ∧ e_7 = fv) := hq_9
        have hP : va_P D vwCl [(k6, .inl (cI, 501, .inl nf)), (h0, .inr (6, [v0, .int e_6, .int e_7, v3, .ref k4, .ref k5, .ref k6, v7, .int (nI e_8), v9, .int (-1), .int z_4])), (k4, .inl (cI, 501, .inl (fun j => nI (Kd j)))), (k5, .inl (cI, 501, .inl sf))] H := hP
        have hD : va_D A [(k6, .inl (cI, 501, .inl nf)), (h0, .inr (6, [v0, .int e_6, .int e_7, v3, .ref k4, .ref k5, .ref k6, v7, .int (nI e_8), v9, .int (-1), .int z_4])), (k4, .inl (cI, 501, .inl (fun j => nI (Kd j)))), (k5, .inl (cI, 501, .inl sf))] := hD
        have htk := hq_9
        have htt := gTk0 htk (by omega)
        have hP := hP.sub (ws' := [(h0, .inr (6, [v0, .int e_6, .int e_7, v3, .ref k4, .ref k5, .ref k6, v7, .int (nI e_8), v9, .int (-1), .int z_4])), (k4, .inl (cI, 501, .inl (fun j => nI (Kd j)))), (k5, .inl (cI, 501, .inl sf)), (k6, .inl (cI, 501, .inl nf))]) [1, 2, 3, 0] rfl
        have hD := hD.sub (ws' := [(h0, .inr (6, [v0, .int e_6, .int e_7, v3, .ref k4, .ref k5, .ref k6, v7, .int (nI e_8), v9, .int (-1), .int z_4])), (k4, .inl (cI, 501, .inl (fun j => nI (Kd j)))), (k5, .inl (cI, 501, .inl sf)), (k6, .inl (cI, 501, .inl nf))]) [1, 2, 3, 0] (by decide) rfl
        exact gx_zret (w' := [(h0, .inr (6, [v0, .int e_6, .int e_7, v3, .ref k4, .ref k5, .ref k6, v7, .int (nI e_8), v9, .int (-1), .int z_4])), (k4, .inl (cI, 501, .inl (fun j => nI (Kd j)))), (k5, .inl (cI, 501, .inl sf)), (k6, .inl (cI, 501, .inl nf))]) hx hb hr hlk hK hP hD hS (Nat.le_of_ble_eq_true rfl) (Nat.le_of_ble_eq_true rfl) dX6_takeVal_105 (gy_z01 (gTk1 htk)) ⟨e_5, e_6, e_7, e_8, z_4, (-1), (by first | exact gTk2 htk (Or.inl rfl) | exact gTk4 (gTk2 htk (Or.inl rfl)) (gTkY htk0 c_2).2.2.2 htt0.1 | exact gTk4 (gTk2 htk (Or.inl rfl)) (gTkY htk0 c_3).2.2.2 htt0.1), (by omega), rfl, rfl⟩
      · refine lv_aload_n hx hb dX6_takeVal_74 rfl (lv_at hl 1 rfl) ?_
        refine va_get (D := D) (ci := 6) (v := .ref k6) (C := RX6) (T := TX6) (N := 12) hx hb hts (fun _ h => List.mem_cons_of_mem _ (List.mem_append_left _ (List.mem_append_right _ h))) hown hK hP 0 rfl rfl 6 (by decide) (hts (.fieldLink RX6 29 "LitmusHall$Reader" "numbers" "[I") (by decide +kernel)) (fun _ h9 => h9) rfl dX6_takeVal_75 ?_
        refine lv_aload_n hx hb dX6_takeVal_78 rfl (lv_at hl 1 rfl) ?_
        refine va_get (D := D) (ci := 6) (v := .int (nI t)) (C := RX6) (T := TX6) (N := 12) hx hb hts (fun _ h => List.mem_cons_of_mem _ (List.mem_append_left _ (List.mem_append_right _ h))) hown hK hP 0 rfl rfl 8 (by decide) (hts (.fieldLink RX6 45 "LitmusHall$Reader" "at" "I") (by decide +kernel)) (fun _ h9 => h9) rfl dX6_takeVal_79 ?_
        refine gy_ild (i := t) hx hb hK hP 3 rfl (by omega) (by omega) dX6_takeVal_82 ?_
        refine gx_gen (fun z_10 => ?_)
        refine lv_ineg hx hb dX6_takeVal_83 ?_
        refine gx_gen (fun z_11 => ?_)
        refine lv_goto (tgt := 96) hx hb dX6_takeVal_84 (by decide) ?_
        refine va_put (D := D) (ci := 6) (v := .int z_11) (ty := .int) (C := RX6) (T := TX6) (N := 12) hx hb hts (fun _ h => List.mem_cons_of_mem _ (List.mem_append_left _ (List.mem_append_right _ h))) tyX6 tyX6_ok nmX6 hown hK hP hD hS 0 rfl rfl 11 (by decide) (hts (.fieldLink RX6 108 "LitmusHall$Reader" "value" "I") (by decide +kernel)) (fun _ h9 => h9) rfl (by decide +kernel) rfl rfl (Nat.le_of_ble_eq_true rfl) dX6_takeVal_96 (fun H locs hP hD hS => ?_)
        have hP : va_P D vwCl [(h0, .inr (6, [v0, .int pv, .int fv, v3, .ref k4, .ref k5, .ref k6, v7, .int (nI t), v9, .int (-1), .int z_11])), (k4, .inl (cI, 501, .inl (fun j => nI (Kd j)))), (k5, .inl (cI, 501, .inl sf)), (k6, .inl (cI, 501, .inl nf))] H := hP
        have hD : va_D A [(h0, .inr (6, [v0, .int pv, .int fv, v3, .ref k4, .ref k5, .ref k6, v7, .int (nI t), v9, .int (-1), .int z_11])), (k4, .inl (cI, 501, .inl (fun j => nI (Kd j)))), (k5, .inl (cI, 501, .inl sf)), (k6, .inl (cI, 501, .inl nf))] := hD
        refine lv_aload_n hx hb dX6_takeVal_99 rfl (lv_at hl 1 rfl) ?_
        refine lv_bipush (v := 16) hx hb dX6_takeVal_100 (by decide) ?_
        refine gx_goi (wc := [(h0, .inr (6, [v0, .int pv, .int fv, v3, .ref k4, .ref k5, .ref k6, v7, .int (nI t), v9, .int (-1), .int z_11])), (k4, .inl (cI, 501, .inl (fun j => nI (Kd j)))), (k5, .inl (cI, 501, .inl sf))]) (wr := [(k6, .inl (cI, 501, .inl nf))]) (va_runV (As := [.int 16]) (rest := []) ⟨hx, hb, hml, hown, hts⟩ (e_take l D cI cB cZ h0 k4 k5 (v0) (v3) (.ref k6) (v7) (v9) (.int (-1)) (.int z_11) pv fv Kd sf t 16 (by omega) _) (cwV 1 hts gP_c_takeVal1__e_take rfl rfl rfl (by decide +kernel) ⟨Nat.le_of_ble_eq_true rfl, Nat.le_of_ble_eq_true rfl⟩) (gx_preV (ci := 6) (q0 := 0) hK gN.nil hP hD [0, 1, 2] rfl rfl rfl rfl) rfl rfl hl.1 rfl (lv_room (Nat.le_of_ble_eq_true rfl)) dX6_takeVal_102 ⟨Nat.le_of_ble_eq_true rfl, Nat.le_of_ble_eq_true rfl⟩) hP hD hS hA [0, 1, 2] [3] rfl rfl rfl (by decide) (fun r1 w1 H locs hp hP hD hS => ?_)
        obtain ⟨e_12, e_13, e_14, e_15, hq_16, h9, rfl⟩ := hp
        have h9 := h9.symm
        subst h9
        have hq_16 : (e_12 = 0 ∧ e_15 = t ∧ ¬ e_14 = 0) ∨ (e_12 = 1 ∧ e_15 = t + 1 ∧ t < 500 ∧ nI (Kd t) = 16 ∧ e_14 = fv) := hq_16
        have hP : va_P D vwCl [(k6, .inl (cI, 501, .inl nf)), (h0, .inr (6, [v0, .int e_13, .int e_14, v3, .ref k4, .ref k5, .ref k6, v7, .int (nI e_15), v9, .int (-1), .int z_11])), (k4, .inl (cI, 501, .inl (fun j => nI (Kd j)))), (k5, .inl (cI, 501, .inl sf))] H := hP
        have hD : va_D A [(k6, .inl (cI, 501, .inl nf)), (h0, .inr (6, [v0, .int e_13, .int e_14, v3, .ref k4, .ref k5, .ref k6, v7, .int (nI e_15), v9, .int (-1), .int z_11])), (k4, .inl (cI, 501, .inl (fun j => nI (Kd j)))), (k5, .inl (cI, 501, .inl sf))] := hD
        have htk := hq_16
        have htt := gTk0 htk (by omega)
        have hP := hP.sub (ws' := [(h0, .inr (6, [v0, .int e_13, .int e_14, v3, .ref k4, .ref k5, .ref k6, v7, .int (nI e_15), v9, .int (-1), .int z_11])), (k4, .inl (cI, 501, .inl (fun j => nI (Kd j)))), (k5, .inl (cI, 501, .inl sf)), (k6, .inl (cI, 501, .inl nf))]) [1, 2, 3, 0] rfl
        have hD := hD.sub (ws' := [(h0, .inr (6, [v0, .int e_13, .int e_14, v3, .ref k4, .ref k5, .ref k6, v7, .int (nI e_15), v9, .int (-1), .int z_11])), (k4, .inl (cI, 501, .inl (fun j => nI (Kd j)))), (k5, .inl (cI, 501, .inl sf)), (k6, .inl (cI, 501, .inl nf))]) [1, 2, 3, 0] (by decide) rfl
        exact gx_zret (w' := [(h0, .inr (6, [v0, .int e_13, .int e_14, v3, .ref k4, .ref k5, .ref k6, v7, .int (nI e_15), v9, .int (-1), .int z_11])), (k4, .inl (cI, 501, .inl (fun j => nI (Kd j)))), (k5, .inl (cI, 501, .inl sf)), (k6, .inl (cI, 501, .inl nf))]) hx hb hr hlk hK hP hD hS (Nat.le_of_ble_eq_true rfl) (Nat.le_of_ble_eq_true rfl) dX6_takeVal_105 (gy_z01 (gTk1 htk)) ⟨e_12, e_13, e_14, e_15, z_11, (-1), (by first | exact gTk2 htk (Or.inl rfl) | exact gTk4 (gTk2 htk (Or.inl rfl)) (gTkY htk0 c_2).2.2.2 htt0.1 | exact gTk4 (gTk2 htk (Or.inl rfl)) (gTkY htk0 c_3).2.2.2 htt0.1), (by omega), rfl, rfl⟩
    · refine lv_aload_n hx hb dX6_takeVal_51 rfl (lv_at hl 1 rfl) ?_
      refine lv_bipush (v := 20) hx hb dX6_takeVal_52 (by decide) ?_
      refine gx_goi (wc := [(h0, .inr (6, [v0, .int pv, .int fv, v3, .ref k4, .ref k5, .ref k6, v7, .int (nI t), v9, .int vr, .int vl])), (k4, .inl (cI, 501, .inl (fun j => nI (Kd j)))), (k5, .inl (cI, 501, .inl sf))]) (wr := [(k6, .inl (cI, 501, .inl nf))]) (va_runV (As := [.int 20]) (rest := []) ⟨hx, hb, hml, hown, hts⟩ (e_take l D cI cB cZ h0 k4 k5 (v0) (v3) (.ref k6) (v7) (v9) (.int vr) (.int vl) pv fv Kd sf t 20 (by omega) _) (cwV 1 hts gP_c_takeVal1__e_take rfl rfl rfl (by decide +kernel) ⟨Nat.le_of_ble_eq_true rfl, Nat.le_of_ble_eq_true rfl⟩) (gx_preV (ci := 6) (q0 := 0) hK gN.nil hP hD [0, 1, 2] rfl rfl rfl rfl) rfl rfl hl.1 rfl (lv_room (Nat.le_of_ble_eq_true rfl)) dX6_takeVal_54 ⟨Nat.le_of_ble_eq_true rfl, Nat.le_of_ble_eq_true rfl⟩) hP hD hS hA [0, 1, 2] [3] rfl rfl rfl (by decide) (fun r1 w1 H locs hp hP hD hS => ?_)
      obtain ⟨e_17, e_18, e_19, e_20, hq_21, h9, rfl⟩ := hp
      have h9 := h9.symm
      subst h9
      have hq_21 : (e_17 = 0 ∧ e_20 = t ∧ ¬ e_19 = 0) ∨ (e_17 = 1 ∧ e_20 = t + 1 ∧ t < 500 ∧ nI (Kd t) = 20 ∧ e_19 = fv) := hq_21
      have hP : va_P D vwCl [(k6, .inl (cI, 501, .inl nf)), (h0, .inr (6, [v0, .int e_18, .int e_19, v3, .ref k4, .ref k5, .ref k6, v7, .int (nI e_20), v9, .int vr, .int vl])), (k4, .inl (cI, 501, .inl (fun j => nI (Kd j)))), (k5, .inl (cI, 501, .inl sf))] H := hP
      have hD : va_D A [(k6, .inl (cI, 501, .inl nf)), (h0, .inr (6, [v0, .int e_18, .int e_19, v3, .ref k4, .ref k5, .ref k6, v7, .int (nI e_20), v9, .int vr, .int vl])), (k4, .inl (cI, 501, .inl (fun j => nI (Kd j)))), (k5, .inl (cI, 501, .inl sf))] := hD
      have htk0 := hq_21
      have htt0 := gTk0 htk0 (by omega)
      refine lv_if_ne (tgt := 62) hx hb dX6_takeVal_57 (by decide) (fun c_22 => ?_) (fun c_22 => ?_)
      · refine lv_aload_n hx hb dX6_takeVal_62 rfl (lv_at hl 1 rfl) ?_
        refine lv_iconst (v := (-1)) hx hb dX6_takeVal_63 (by decide) ?_
        refine va_put (D := D) (ci := 6) (v := .int (-1)) (ty := .int) (C := RX6) (T := TX6) (N := 12) hx hb hts (fun _ h => List.mem_cons_of_mem _ (List.mem_append_left _ (List.mem_append_right _ h))) tyX6 tyX6_ok nmX6 hown hK hP hD hS 1 rfl rfl 10 (by decide) (hts (.fieldLink RX6 122 "LitmusHall$Reader" "valueReg" "I") (by decide +kernel)) (fun _ h9 => h9) rfl (by decide +kernel) rfl rfl (Nat.le_of_ble_eq_true rfl) dX6_takeVal_64 (fun H locs hP hD hS => ?_)
        have hP : va_P D vwCl [(k6, .inl (cI, 501, .inl nf)), (h0, .inr (6, [v0, .int e_18, .int e_19, v3, .ref k4, .ref k5, .ref k6, v7, .int (nI e_20), v9, .int (-1), .int vl])), (k4, .inl (cI, 501, .inl (fun j => nI (Kd j)))), (k5, .inl (cI, 501, .inl sf))] H := hP
        have hD : va_D A [(k6, .inl (cI, 501, .inl nf)), (h0, .inr (6, [v0, .int e_18, .int e_19, v3, .ref k4, .ref k5, .ref k6, v7, .int (nI e_20), v9, .int (-1), .int vl])), (k4, .inl (cI, 501, .inl (fun j => nI (Kd j)))), (k5, .inl (cI, 501, .inl sf))] := hD
        refine lv_aload_n hx hb dX6_takeVal_67 rfl (lv_at hl 1 rfl) ?_
        refine lv_iload_n hx hb dX6_takeVal_68 rfl (lv_at hl 0 rfl) ?_
        refine lv_bipush (v := 20) hx hb dX6_takeVal_69 (by decide) ?_
        refine gy_ne (a := (Kd t)) (b := 20) (tgt := 87) hx hb (by omega) (by omega) dX6_takeVal_71 (by decide) (fun c_23 => ?_) (fun c_23 => ?_)
        · refine lv_aload_n hx hb dX6_takeVal_87 rfl (lv_at hl 1 rfl) ?_
          refine va_get (D := D) (ci := 6) (v := .ref k6) (C := RX6) (T := TX6) (N := 12) hx hb hts (fun _ h => List.mem_cons_of_mem _ (List.mem_append_left _ (List.mem_append_right _ h))) hown hK hP 1 rfl rfl 6 (by decide) (hts (.fieldLink RX6 29 "LitmusHall$Reader" "numbers" "[I") (by decide +kernel)) (fun _ h9 => h9) rfl dX6_takeVal_88 ?_
          refine lv_aload_n hx hb dX6_takeVal_91 rfl (lv_at hl 1 rfl) ?_
          refine va_get (D := D) (ci := 6) (v := .int (nI e_20)) (C := RX6) (T := TX6) (N := 12) hx hb hts (fun _ h => List.mem_cons_of_mem _ (List.mem_append_left _ (List.mem_append_right _ h))) hown hK hP 1 rfl rfl 8 (by decide) (hts (.fieldLink RX6 45 "LitmusHall$Reader" "at" "I") (by decide +kernel)) (fun _ h9 => h9) rfl dX6_takeVal_92 ?_
          refine gy_ild (i := e_20) hx hb hK hP 0 rfl (by omega) (by omega) dX6_takeVal_95 ?_
          refine gx_gen (fun z_24 => ?_)
          refine va_put (D := D) (ci := 6) (v := .int z_24) (ty := .int) (C := RX6) (T := TX6) (N := 12) hx hb hts (fun _ h => List.mem_cons_of_mem _ (List.mem_append_left _ (List.mem_append_right _ h))) tyX6 tyX6_ok nmX6 hown hK hP hD hS 1 rfl rfl 11 (by decide) (hts (.fieldLink RX6 108 "LitmusHall$Reader" "value" "I") (by decide +kernel)) (fun _ h9 => h9) rfl (by decide +kernel) rfl rfl (Nat.le_of_ble_eq_true rfl) dX6_takeVal_96 (fun H locs hP hD hS => ?_)
          have hP : va_P D vwCl [(k6, .inl (cI, 501, .inl nf)), (h0, .inr (6, [v0, .int e_18, .int e_19, v3, .ref k4, .ref k5, .ref k6, v7, .int (nI e_20), v9, .int (-1), .int z_24])), (k4, .inl (cI, 501, .inl (fun j => nI (Kd j)))), (k5, .inl (cI, 501, .inl sf))] H := hP
          have hD : va_D A [(k6, .inl (cI, 501, .inl nf)), (h0, .inr (6, [v0, .int e_18, .int e_19, v3, .ref k4, .ref k5, .ref k6, v7, .int (nI e_20), v9, .int (-1), .int z_24])), (k4, .inl (cI, 501, .inl (fun j => nI (Kd j)))), (k5, .inl (cI, 501, .inl sf))] := hD
          refine lv_aload_n hx hb dX6_takeVal_99 rfl (lv_at hl 1 rfl) ?_
          refine lv_bipush (v := 16) hx hb dX6_takeVal_100 (by decide) ?_
          refine gx_goi (wc := [(h0, .inr (6, [v0, .int e_18, .int e_19, v3, .ref k4, .ref k5, .ref k6, v7, .int (nI e_20), v9, .int (-1), .int z_24])), (k4, .inl (cI, 501, .inl (fun j => nI (Kd j)))), (k5, .inl (cI, 501, .inl sf))]) (wr := [(k6, .inl (cI, 501, .inl nf))]) (va_runV (As := [.int 16]) (rest := []) ⟨hx, hb, hml, hown, hts⟩ (e_take l D cI cB cZ h0 k4 k5 (v0) (v3) (.ref k6) (v7) (v9) (.int (-1)) (.int z_24) e_18 e_19 Kd sf e_20 16 (by omega) _) (cwV 1 hts gP_c_takeVal1__e_take rfl rfl rfl (by decide +kernel) ⟨Nat.le_of_ble_eq_true rfl, Nat.le_of_ble_eq_true rfl⟩) (gx_preV (ci := 6) (q0 := 0) hK gN.nil hP hD [1, 2, 3] rfl rfl rfl rfl) rfl rfl hl.1 rfl (lv_room (Nat.le_of_ble_eq_true rfl)) dX6_takeVal_102 ⟨Nat.le_of_ble_eq_true rfl, Nat.le_of_ble_eq_true rfl⟩) hP hD hS hA [1, 2, 3] [0] rfl rfl rfl (by decide) (fun r1 w1 H locs hp hP hD hS => ?_)
          obtain ⟨e_25, e_26, e_27, e_28, hq_29, h9, rfl⟩ := hp
          have h9 := h9.symm
          subst h9
          have hq_29 : (e_25 = 0 ∧ e_28 = e_20 ∧ ¬ e_27 = 0) ∨ (e_25 = 1 ∧ e_28 = e_20 + 1 ∧ e_20 < 500 ∧ nI (Kd e_20) = 16 ∧ e_27 = e_19) := hq_29
          have hP : va_P D vwCl [(k6, .inl (cI, 501, .inl nf)), (h0, .inr (6, [v0, .int e_26, .int e_27, v3, .ref k4, .ref k5, .ref k6, v7, .int (nI e_28), v9, .int (-1), .int z_24])), (k4, .inl (cI, 501, .inl (fun j => nI (Kd j)))), (k5, .inl (cI, 501, .inl sf))] H := hP
          have hD : va_D A [(k6, .inl (cI, 501, .inl nf)), (h0, .inr (6, [v0, .int e_26, .int e_27, v3, .ref k4, .ref k5, .ref k6, v7, .int (nI e_28), v9, .int (-1), .int z_24])), (k4, .inl (cI, 501, .inl (fun j => nI (Kd j)))), (k5, .inl (cI, 501, .inl sf))] := hD
          have htk := hq_29
          have htt := gTk0 htk (by omega)
          have hP := hP.sub (ws' := [(h0, .inr (6, [v0, .int e_26, .int e_27, v3, .ref k4, .ref k5, .ref k6, v7, .int (nI e_28), v9, .int (-1), .int z_24])), (k4, .inl (cI, 501, .inl (fun j => nI (Kd j)))), (k5, .inl (cI, 501, .inl sf)), (k6, .inl (cI, 501, .inl nf))]) [1, 2, 3, 0] rfl
          have hD := hD.sub (ws' := [(h0, .inr (6, [v0, .int e_26, .int e_27, v3, .ref k4, .ref k5, .ref k6, v7, .int (nI e_28), v9, .int (-1), .int z_24])), (k4, .inl (cI, 501, .inl (fun j => nI (Kd j)))), (k5, .inl (cI, 501, .inl sf)), (k6, .inl (cI, 501, .inl nf))]) [1, 2, 3, 0] (by decide) rfl
          exact gx_zret (w' := [(h0, .inr (6, [v0, .int e_26, .int e_27, v3, .ref k4, .ref k5, .ref k6, v7, .int (nI e_28), v9, .int (-1), .int z_24])), (k4, .inl (cI, 501, .inl (fun j => nI (Kd j)))), (k5, .inl (cI, 501, .inl sf)), (k6, .inl (cI, 501, .inl nf))]) hx hb hr hlk hK hP hD hS (Nat.le_of_ble_eq_true rfl) (Nat.le_of_ble_eq_true rfl) dX6_takeVal_105 (gy_z01 (gTk1 htk)) ⟨e_25, e_26, e_27, e_28, z_24, (-1), (by first | exact gTk2 htk (Or.inl rfl) | exact gTk4 (gTk2 htk (Or.inl rfl)) (gTkY htk0 c_22).2.2.2 htt0.1 | exact gTk4 (gTk2 htk (Or.inl rfl)) (gTkY htk0 c_23).2.2.2 htt0.1), (by omega), rfl, rfl⟩
        · refine lv_aload_n hx hb dX6_takeVal_74 rfl (lv_at hl 1 rfl) ?_
          refine va_get (D := D) (ci := 6) (v := .ref k6) (C := RX6) (T := TX6) (N := 12) hx hb hts (fun _ h => List.mem_cons_of_mem _ (List.mem_append_left _ (List.mem_append_right _ h))) hown hK hP 1 rfl rfl 6 (by decide) (hts (.fieldLink RX6 29 "LitmusHall$Reader" "numbers" "[I") (by decide +kernel)) (fun _ h9 => h9) rfl dX6_takeVal_75 ?_
          refine lv_aload_n hx hb dX6_takeVal_78 rfl (lv_at hl 1 rfl) ?_
          refine va_get (D := D) (ci := 6) (v := .int (nI e_20)) (C := RX6) (T := TX6) (N := 12) hx hb hts (fun _ h => List.mem_cons_of_mem _ (List.mem_append_left _ (List.mem_append_right _ h))) hown hK hP 1 rfl rfl 8 (by decide) (hts (.fieldLink RX6 45 "LitmusHall$Reader" "at" "I") (by decide +kernel)) (fun _ h9 => h9) rfl dX6_takeVal_79 ?_
          refine gy_ild (i := e_20) hx hb hK hP 0 rfl (by omega) (by omega) dX6_takeVal_82 ?_
          refine gx_gen (fun z_30 => ?_)
          refine lv_ineg hx hb dX6_takeVal_83 ?_
          refine gx_gen (fun z_31 => ?_)
          refine lv_goto (tgt := 96) hx hb dX6_takeVal_84 (by decide) ?_
          refine va_put (D := D) (ci := 6) (v := .int z_31) (ty := .int) (C := RX6) (T := TX6) (N := 12) hx hb hts (fun _ h => List.mem_cons_of_mem _ (List.mem_append_left _ (List.mem_append_right _ h))) tyX6 tyX6_ok nmX6 hown hK hP hD hS 1 rfl rfl 11 (by decide) (hts (.fieldLink RX6 108 "LitmusHall$Reader" "value" "I") (by decide +kernel)) (fun _ h9 => h9) rfl (by decide +kernel) rfl rfl (Nat.le_of_ble_eq_true rfl) dX6_takeVal_96 (fun H locs hP hD hS => ?_)
          have hP : va_P D vwCl [(k6, .inl (cI, 501, .inl nf)), (h0, .inr (6, [v0, .int e_18, .int e_19, v3, .ref k4, .ref k5, .ref k6, v7, .int (nI e_20), v9, .int (-1), .int z_31])), (k4, .inl (cI, 501, .inl (fun j => nI (Kd j)))), (k5, .inl (cI, 501, .inl sf))] H := hP
          have hD : va_D A [(k6, .inl (cI, 501, .inl nf)), (h0, .inr (6, [v0, .int e_18, .int e_19, v3, .ref k4, .ref k5, .ref k6, v7, .int (nI e_20), v9, .int (-1), .int z_31])), (k4, .inl (cI, 501, .inl (fun j => nI (Kd j)))), (k5, .inl (cI, 501, .inl sf))] := hD
          refine lv_aload_n hx hb dX6_takeVal_99 rfl (lv_at hl 1 rfl) ?_
          refine lv_bipush (v := 16) hx hb dX6_takeVal_100 (by decide) ?_
          refine gx_goi (wc := [(h0, .inr (6, [v0, .int e_18, .int e_19, v3, .ref k4, .ref k5, .ref k6, v7, .int (nI e_20), v9, .int (-1), .int z_31])), (k4, .inl (cI, 501, .inl (fun j => nI (Kd j)))), (k5, .inl (cI, 501, .inl sf))]) (wr := [(k6, .inl (cI, 501, .inl nf))]) (va_runV (As := [.int 16]) (rest := []) ⟨hx, hb, hml, hown, hts⟩ (e_take l D cI cB cZ h0 k4 k5 (v0) (v3) (.ref k6) (v7) (v9) (.int (-1)) (.int z_31) e_18 e_19 Kd sf e_20 16 (by omega) _) (cwV 1 hts gP_c_takeVal1__e_take rfl rfl rfl (by decide +kernel) ⟨Nat.le_of_ble_eq_true rfl, Nat.le_of_ble_eq_true rfl⟩) (gx_preV (ci := 6) (q0 := 0) hK gN.nil hP hD [1, 2, 3] rfl rfl rfl rfl) rfl rfl hl.1 rfl (lv_room (Nat.le_of_ble_eq_true rfl)) dX6_takeVal_102 ⟨Nat.le_of_ble_eq_true rfl, Nat.le_of_ble_eq_true rfl⟩) hP hD hS hA [1, 2, 3] [0] rfl rfl rfl (by decide) (fun r1 w1 H locs hp hP hD hS => ?_)
          obtain ⟨e_32, e_33, e_34, e_35, hq_36, h9, rfl⟩ := hp
          have h9 := h9.symm
          subst h9
          have hq_36 : (e_32 = 0 ∧ e_35 = e_20 ∧ ¬ e_34 = 0) ∨ (e_32 = 1 ∧ e_35 = e_20 + 1 ∧ e_20 < 500 ∧ nI (Kd e_20) = 16 ∧ e_34 = e_19) := hq_36
          have hP : va_P D vwCl [(k6, .inl (cI, 501, .inl nf)), (h0, .inr (6, [v0, .int e_33, .int e_34, v3, .ref k4, .ref k5, .ref k6, v7, .int (nI e_35), v9, .int (-1), .int z_31])), (k4, .inl (cI, 501, .inl (fun j => nI (Kd j)))), (k5, .inl (cI, 501, .inl sf))] H := hP
          have hD : va_D A [(k6, .inl (cI, 501, .inl nf)), (h0, .inr (6, [v0, .int e_33, .int e_34, v3, .ref k4, .ref k5, .ref k6, v7, .int (nI e_35), v9, .int (-1), .int z_31])), (k4, .inl (cI, 501, .inl (fun j => nI (Kd j)))), (k5, .inl (cI, 501, .inl sf))] := hD
          have htk := hq_36
          have htt := gTk0 htk (by omega)
          have hP := hP.sub (ws' := [(h0, .inr (6, [v0, .int e_33, .int e_34, v3, .ref k4, .ref k5, .ref k6, v7, .int (nI e_35), v9, .int (-1), .int z_31])), (k4, .inl (cI, 501, .inl (fun j => nI (Kd j)))), (k5, .inl (cI, 501, .inl sf)), (k6, .inl (cI, 501, .inl nf))]) [1, 2, 3, 0] rfl
          have hD := hD.sub (ws' := [(h0, .inr (6, [v0, .int e_33, .int e_34, v3, .ref k4, .ref k5, .ref k6, v7, .int (nI e_35), v9, .int (-1), .int z_31])), (k4, .inl (cI, 501, .inl (fun j => nI (Kd j)))), (k5, .inl (cI, 501, .inl sf)), (k6, .inl (cI, 501, .inl nf))]) [1, 2, 3, 0] (by decide) rfl
          exact gx_zret (w' := [(h0, .inr (6, [v0, .int e_33, .int e_34, v3, .ref k4, .ref k5, .ref k6, v7, .int (nI e_35), v9, .int (-1), .int z_31])), (k4, .inl (cI, 501, .inl (fun j => nI (Kd j)))), (k5, .inl (cI, 501, .inl sf)), (k6, .inl (cI, 501, .inl nf))]) hx hb hr hlk hK hP hD hS (Nat.le_of_ble_eq_true rfl) (Nat.le_of_ble_eq_true rfl) dX6_takeVal_105 (gy_z01 (gTk1 htk)) ⟨e_32, e_33, e_34, e_35, z_31, (-1), (by first | exact gTk2 htk (Or.inl rfl) | exact gTk4 (gTk2 htk (Or.inl rfl)) (gTkY htk0 c_22).2.2.2 htt0.1 | exact gTk4 (gTk2 htk (Or.inl rfl)) (gTkY htk0 c_23).2.2.2 htt0.1), (by omega), rfl, rfl⟩
      · refine lv_iconst (v := 0) hx hb dX6_takeVal_60 (by decide) ?_
        have hP := hP.sub (ws' := [(h0, .inr (6, [v0, .int e_18, .int e_19, v3, .ref k4, .ref k5, .ref k6, v7, .int (nI e_20), v9, .int vr, .int vl])), (k4, .inl (cI, 501, .inl (fun j => nI (Kd j)))), (k5, .inl (cI, 501, .inl sf)), (k6, .inl (cI, 501, .inl nf))]) [1, 2, 3, 0] rfl
        have hD := hD.sub (ws' := [(h0, .inr (6, [v0, .int e_18, .int e_19, v3, .ref k4, .ref k5, .ref k6, v7, .int (nI e_20), v9, .int vr, .int vl])), (k4, .inl (cI, 501, .inl (fun j => nI (Kd j)))), (k5, .inl (cI, 501, .inl sf)), (k6, .inl (cI, 501, .inl nf))]) [1, 2, 3, 0] (by decide) rfl
        exact gx_zret (w' := [(h0, .inr (6, [v0, .int e_18, .int e_19, v3, .ref k4, .ref k5, .ref k6, v7, .int (nI e_20), v9, .int vr, .int vl])), (k4, .inl (cI, 501, .inl (fun j => nI (Kd j)))), (k5, .inl (cI, 501, .inl sf)), (k6, .inl (cI, 501, .inl nf))]) hx hb hr hlk hK hP hD hS (Nat.le_of_ble_eq_true rfl) (Nat.le_of_ble_eq_true rfl) dX6_takeVal_61 rfl ⟨0, e_18, e_19, e_20, vl, vr, (Or.inl ⟨rfl, by rcases htk0 with h | h; exact h.2.2; exact absurd (h.1.symm.trans c_22) (by decide)⟩), htt0, rfl, rfl⟩
  · refine lv_iload_n hx hb dX6_takeVal_20 rfl (lv_at hl 0 rfl) ?_
    refine lv_bipush (v := 15) hx hb dX6_takeVal_21 (by decide) ?_
    refine gy_gt (a := (Kd t)) (b := 15) (tgt := 45) hx hb (by omega) (by omega) dX6_takeVal_23 (by decide) (fun c_37 => ?_) (fun c_37 => ?_)
    · refine lv_iload_n hx hb dX6_takeVal_45 rfl (lv_at hl 0 rfl) ?_
      refine lv_bipush (v := 20) hx hb dX6_takeVal_46 (by decide) ?_
      refine gy_ne (a := (Kd t)) (b := 20) (tgt := 62) hx hb (by omega) (by omega) dX6_takeVal_48 (by decide) (fun c_38 => ?_) (fun c_38 => ?_)
      · refine lv_aload_n hx hb dX6_takeVal_62 rfl (lv_at hl 1 rfl) ?_
        refine lv_iconst (v := (-1)) hx hb dX6_takeVal_63 (by decide) ?_
        refine va_put (D := D) (ci := 6) (v := .int (-1)) (ty := .int) (C := RX6) (T := TX6) (N := 12) hx hb hts (fun _ h => List.mem_cons_of_mem _ (List.mem_append_left _ (List.mem_append_right _ h))) tyX6 tyX6_ok nmX6 hown hK hP hD hS 0 rfl rfl 10 (by decide) (hts (.fieldLink RX6 122 "LitmusHall$Reader" "valueReg" "I") (by decide +kernel)) (fun _ h9 => h9) rfl (by decide +kernel) rfl rfl (Nat.le_of_ble_eq_true rfl) dX6_takeVal_64 (fun H locs hP hD hS => ?_)
        have hP : va_P D vwCl [(h0, .inr (6, [v0, .int pv, .int fv, v3, .ref k4, .ref k5, .ref k6, v7, .int (nI t), v9, .int (-1), .int vl])), (k4, .inl (cI, 501, .inl (fun j => nI (Kd j)))), (k5, .inl (cI, 501, .inl sf)), (k6, .inl (cI, 501, .inl nf))] H := hP
        have hD : va_D A [(h0, .inr (6, [v0, .int pv, .int fv, v3, .ref k4, .ref k5, .ref k6, v7, .int (nI t), v9, .int (-1), .int vl])), (k4, .inl (cI, 501, .inl (fun j => nI (Kd j)))), (k5, .inl (cI, 501, .inl sf)), (k6, .inl (cI, 501, .inl nf))] := hD
        refine lv_aload_n hx hb dX6_takeVal_67 rfl (lv_at hl 1 rfl) ?_
        refine lv_iload_n hx hb dX6_takeVal_68 rfl (lv_at hl 0 rfl) ?_
        refine lv_bipush (v := 20) hx hb dX6_takeVal_69 (by decide) ?_
        refine gy_ne (a := (Kd t)) (b := 20) (tgt := 87) hx hb (by omega) (by omega) dX6_takeVal_71 (by decide) (fun c_39 => ?_) (fun c_39 => ?_)
        · refine lv_aload_n hx hb dX6_takeVal_87 rfl (lv_at hl 1 rfl) ?_
          refine va_get (D := D) (ci := 6) (v := .ref k6) (C := RX6) (T := TX6) (N := 12) hx hb hts (fun _ h => List.mem_cons_of_mem _ (List.mem_append_left _ (List.mem_append_right _ h))) hown hK hP 0 rfl rfl 6 (by decide) (hts (.fieldLink RX6 29 "LitmusHall$Reader" "numbers" "[I") (by decide +kernel)) (fun _ h9 => h9) rfl dX6_takeVal_88 ?_
          refine lv_aload_n hx hb dX6_takeVal_91 rfl (lv_at hl 1 rfl) ?_
          refine va_get (D := D) (ci := 6) (v := .int (nI t)) (C := RX6) (T := TX6) (N := 12) hx hb hts (fun _ h => List.mem_cons_of_mem _ (List.mem_append_left _ (List.mem_append_right _ h))) hown hK hP 0 rfl rfl 8 (by decide) (hts (.fieldLink RX6 45 "LitmusHall$Reader" "at" "I") (by decide +kernel)) (fun _ h9 => h9) rfl dX6_takeVal_92 ?_
          refine gy_ild (i := t) hx hb hK hP 3 rfl (by omega) (by omega) dX6_takeVal_95 ?_
          refine gx_gen (fun z_40 => ?_)
          refine va_put (D := D) (ci := 6) (v := .int z_40) (ty := .int) (C := RX6) (T := TX6) (N := 12) hx hb hts (fun _ h => List.mem_cons_of_mem _ (List.mem_append_left _ (List.mem_append_right _ h))) tyX6 tyX6_ok nmX6 hown hK hP hD hS 0 rfl rfl 11 (by decide) (hts (.fieldLink RX6 108 "LitmusHall$Reader" "value" "I") (by decide +kernel)) (fun _ h9 => h9) rfl (by decide +kernel) rfl rfl (Nat.le_of_ble_eq_true rfl) dX6_takeVal_96 (fun H locs hP hD hS => ?_)
          have hP : va_P D vwCl [(h0, .inr (6, [v0, .int pv, .int fv, v3, .ref k4, .ref k5, .ref k6, v7, .int (nI t), v9, .int (-1), .int z_40])), (k4, .inl (cI, 501, .inl (fun j => nI (Kd j)))), (k5, .inl (cI, 501, .inl sf)), (k6, .inl (cI, 501, .inl nf))] H := hP
          have hD : va_D A [(h0, .inr (6, [v0, .int pv, .int fv, v3, .ref k4, .ref k5, .ref k6, v7, .int (nI t), v9, .int (-1), .int z_40])), (k4, .inl (cI, 501, .inl (fun j => nI (Kd j)))), (k5, .inl (cI, 501, .inl sf)), (k6, .inl (cI, 501, .inl nf))] := hD
          refine lv_aload_n hx hb dX6_takeVal_99 rfl (lv_at hl 1 rfl) ?_
          refine lv_bipush (v := 16) hx hb dX6_takeVal_100 (by decide) ?_
          refine gx_goi (wc := [(h0, .inr (6, [v0, .int pv, .int fv, v3, .ref k4, .ref k5, .ref k6, v7, .int (nI t), v9, .int (-1), .int z_40])), (k4, .inl (cI, 501, .inl (fun j => nI (Kd j)))), (k5, .inl (cI, 501, .inl sf))]) (wr := [(k6, .inl (cI, 501, .inl nf))]) (va_runV (As := [.int 16]) (rest := []) ⟨hx, hb, hml, hown, hts⟩ (e_take l D cI cB cZ h0 k4 k5 (v0) (v3) (.ref k6) (v7) (v9) (.int (-1)) (.int z_40) pv fv Kd sf t 16 (by omega) _) (cwV 1 hts gP_c_takeVal1__e_take rfl rfl rfl (by decide +kernel) ⟨Nat.le_of_ble_eq_true rfl, Nat.le_of_ble_eq_true rfl⟩) (gx_preV (ci := 6) (q0 := 0) hK gN.nil hP hD [0, 1, 2] rfl rfl rfl rfl) rfl rfl hl.1 rfl (lv_room (Nat.le_of_ble_eq_true rfl)) dX6_takeVal_102 ⟨Nat.le_of_ble_eq_true rfl, Nat.le_of_ble_eq_true rfl⟩) hP hD hS hA [0, 1, 2] [3] rfl rfl rfl (by decide) (fun r1 w1 H locs hp hP hD hS => ?_)
          obtain ⟨e_41, e_42, e_43, e_44, hq_45, h9, rfl⟩ := hp
          have h9 := h9.symm
          subst h9
          have hq_45 : (e_41 = 0 ∧ e_44 = t ∧ ¬ e_43 = 0) ∨ (e_41 = 1 ∧ e_44 = t + 1 ∧ t < 500 ∧ nI (Kd t) = 16 ∧ e_43 = fv) := hq_45
          have hP : va_P D vwCl [(k6, .inl (cI, 501, .inl nf)), (h0, .inr (6, [v0, .int e_42, .int e_43, v3, .ref k4, .ref k5, .ref k6, v7, .int (nI e_44), v9, .int (-1), .int z_40])), (k4, .inl (cI, 501, .inl (fun j => nI (Kd j)))), (k5, .inl (cI, 501, .inl sf))] H := hP
          have hD : va_D A [(k6, .inl (cI, 501, .inl nf)), (h0, .inr (6, [v0, .int e_42, .int e_43, v3, .ref k4, .ref k5, .ref k6, v7, .int (nI e_44), v9, .int (-1), .int z_40])), (k4, .inl (cI, 501, .inl (fun j => nI (Kd j)))), (k5, .inl (cI, 501, .inl sf))] := hD
          have htk := hq_45
          have htt := gTk0 htk (by omega)
          have hP := hP.sub (ws' := [(h0, .inr (6, [v0, .int e_42, .int e_43, v3, .ref k4, .ref k5, .ref k6, v7, .int (nI e_44), v9, .int (-1), .int z_40])), (k4, .inl (cI, 501, .inl (fun j => nI (Kd j)))), (k5, .inl (cI, 501, .inl sf)), (k6, .inl (cI, 501, .inl nf))]) [1, 2, 3, 0] rfl
          have hD := hD.sub (ws' := [(h0, .inr (6, [v0, .int e_42, .int e_43, v3, .ref k4, .ref k5, .ref k6, v7, .int (nI e_44), v9, .int (-1), .int z_40])), (k4, .inl (cI, 501, .inl (fun j => nI (Kd j)))), (k5, .inl (cI, 501, .inl sf)), (k6, .inl (cI, 501, .inl nf))]) [1, 2, 3, 0] (by decide) rfl
          exact gx_zret (w' := [(h0, .inr (6, [v0, .int e_42, .int e_43, v3, .ref k4, .ref k5, .ref k6, v7, .int (nI e_44), v9, .int (-1), .int z_40])), (k4, .inl (cI, 501, .inl (fun j => nI (Kd j)))), (k5, .inl (cI, 501, .inl sf)), (k6, .inl (cI, 501, .inl nf))]) hx hb hr hlk hK hP hD hS (Nat.le_of_ble_eq_true rfl) (Nat.le_of_ble_eq_true rfl) dX6_takeVal_105 (gy_z01 (gTk1 htk)) ⟨e_41, e_42, e_43, e_44, z_40, (-1), (by first | exact gTk2 htk (Or.inl rfl) | exact gTk4 (gTk2 htk (Or.inl rfl)) (gTkY htk0 c_38).2.2.2 htt0.1 | exact gTk4 (gTk2 htk (Or.inl rfl)) (gTkY htk0 c_39).2.2.2 htt0.1), (by omega), rfl, rfl⟩
        · refine lv_aload_n hx hb dX6_takeVal_74 rfl (lv_at hl 1 rfl) ?_
          refine va_get (D := D) (ci := 6) (v := .ref k6) (C := RX6) (T := TX6) (N := 12) hx hb hts (fun _ h => List.mem_cons_of_mem _ (List.mem_append_left _ (List.mem_append_right _ h))) hown hK hP 0 rfl rfl 6 (by decide) (hts (.fieldLink RX6 29 "LitmusHall$Reader" "numbers" "[I") (by decide +kernel)) (fun _ h9 => h9) rfl dX6_takeVal_75 ?_
          refine lv_aload_n hx hb dX6_takeVal_78 rfl (lv_at hl 1 rfl) ?_
          refine va_get (D := D) (ci := 6) (v := .int (nI t)) (C := RX6) (T := TX6) (N := 12) hx hb hts (fun _ h => List.mem_cons_of_mem _ (List.mem_append_left _ (List.mem_append_right _ h))) hown hK hP 0 rfl rfl 8 (by decide) (hts (.fieldLink RX6 45 "LitmusHall$Reader" "at" "I") (by decide +kernel)) (fun _ h9 => h9) rfl dX6_takeVal_79 ?_
          refine gy_ild (i := t) hx hb hK hP 3 rfl (by omega) (by omega) dX6_takeVal_82 ?_
          refine gx_gen (fun z_46 => ?_)
          refine lv_ineg hx hb dX6_takeVal_83 ?_
          refine gx_gen (fun z_47 => ?_)
          refine lv_goto (tgt := 96) hx hb dX6_takeVal_84 (by decide) ?_
          refine va_put (D := D) (ci := 6) (v := .int z_47) (ty := .int) (C := RX6) (T := TX6) (N := 12) hx hb hts (fun _ h => List.mem_cons_of_mem _ (List.mem_append_left _ (List.mem_append_right _ h))) tyX6 tyX6_ok nmX6 hown hK hP hD hS 0 rfl rfl 11 (by decide) (hts (.fieldLink RX6 108 "LitmusHall$Reader" "value" "I") (by decide +kernel)) (fun _ h9 => h9) rfl (by decide +kernel) rfl rfl (Nat.le_of_ble_eq_true rfl) dX6_takeVal_96 (fun H locs hP hD hS => ?_)
          have hP : va_P D vwCl [(h0, .inr (6, [v0, .int pv, .int fv, v3, .ref k4, .ref k5, .ref k6, v7, .int (nI t), v9, .int (-1), .int z_47])), (k4, .inl (cI, 501, .inl (fun j => nI (Kd j)))), (k5, .inl (cI, 501, .inl sf)), (k6, .inl (cI, 501, .inl nf))] H := hP
          have hD : va_D A [(h0, .inr (6, [v0, .int pv, .int fv, v3, .ref k4, .ref k5, .ref k6, v7, .int (nI t), v9, .int (-1), .int z_47])), (k4, .inl (cI, 501, .inl (fun j => nI (Kd j)))), (k5, .inl (cI, 501, .inl sf)), (k6, .inl (cI, 501, .inl nf))] := hD
          refine lv_aload_n hx hb dX6_takeVal_99 rfl (lv_at hl 1 rfl) ?_
          refine lv_bipush (v := 16) hx hb dX6_takeVal_100 (by decide) ?_
          refine gx_goi (wc := [(h0, .inr (6, [v0, .int pv, .int fv, v3, .ref k4, .ref k5, .ref k6, v7, .int (nI t), v9, .int (-1), .int z_47])), (k4, .inl (cI, 501, .inl (fun j => nI (Kd j)))), (k5, .inl (cI, 501, .inl sf))]) (wr := [(k6, .inl (cI, 501, .inl nf))]) (va_runV (As := [.int 16]) (rest := []) ⟨hx, hb, hml, hown, hts⟩ (e_take l D cI cB cZ h0 k4 k5 (v0) (v3) (.ref k6) (v7) (v9) (.int (-1)) (.int z_47) pv fv Kd sf t 16 (by omega) _) (cwV 1 hts gP_c_takeVal1__e_take rfl rfl rfl (by decide +kernel) ⟨Nat.le_of_ble_eq_true rfl, Nat.le_of_ble_eq_true rfl⟩) (gx_preV (ci := 6) (q0 := 0) hK gN.nil hP hD [0, 1, 2] rfl rfl rfl rfl) rfl rfl hl.1 rfl (lv_room (Nat.le_of_ble_eq_true rfl)) dX6_takeVal_102 ⟨Nat.le_of_ble_eq_true rfl, Nat.le_of_ble_eq_true rfl⟩) hP hD hS hA [0, 1, 2] [3] rfl rfl rfl (by decide) (fun r1 w1 H locs hp hP hD hS => ?_)
          obtain ⟨e_48, e_49, e_50, e_51, hq_52, h9, rfl⟩ := hp
          have h9 := h9.symm
          subst h9
          have hq_52 : (e_48 = 0 ∧ e_51 = t ∧ ¬ e_50 = 0) ∨ (e_48 = 1 ∧ e_51 = t + 1 ∧ t < 500 ∧ nI (Kd t) = 16 ∧ e_50 = fv) := hq_52
          have hP : va_P D vwCl [(k6, .inl (cI, 501, .inl nf)), (h0, .inr (6, [v0, .int e_49, .int e_50, v3, .ref k4, .ref k5, .ref k6, v7, .int (nI e_51), v9, .int (-1), .int z_47])), (k4, .inl (cI, 501, .inl (fun j => nI (Kd j)))), (k5, .inl (cI, 501, .inl sf))] H := hP
          have hD : va_D A [(k6, .inl (cI, 501, .inl nf)), (h0, .inr (6, [v0, .int e_49, .int e_50, v3, .ref k4, .ref k5, .ref k6, v7, .int (nI e_51), v9, .int (-1), .int z_47])), (k4, .inl (cI, 501, .inl (fun j => nI (Kd j)))), (k5, .inl (cI, 501, .inl sf))] := hD
          have htk := hq_52
          have htt := gTk0 htk (by omega)
          have hP := hP.sub (ws' := [(h0, .inr (6, [v0, .int e_49, .int e_50, v3, .ref k4, .ref k5, .ref k6, v7, .int (nI e_51), v9, .int (-1), .int z_47])), (k4, .inl (cI, 501, .inl (fun j => nI (Kd j)))), (k5, .inl (cI, 501, .inl sf)), (k6, .inl (cI, 501, .inl nf))]) [1, 2, 3, 0] rfl
          have hD := hD.sub (ws' := [(h0, .inr (6, [v0, .int e_49, .int e_50, v3, .ref k4, .ref k5, .ref k6, v7, .int (nI e_51), v9, .int (-1), .int z_47])), (k4, .inl (cI, 501, .inl (fun j => nI (Kd j)))), (k5, .inl (cI, 501, .inl sf)), (k6, .inl (cI, 501, .inl nf))]) [1, 2, 3, 0] (by decide) rfl
          exact gx_zret (w' := [(h0, .inr (6, [v0, .int e_49, .int e_50, v3, .ref k4, .ref k5, .ref k6, v7, .int (nI e_51), v9, .int (-1), .int z_47])), (k4, .inl (cI, 501, .inl (fun j => nI (Kd j)))), (k5, .inl (cI, 501, .inl sf)), (k6, .inl (cI, 501, .inl nf))]) hx hb hr hlk hK hP hD hS (Nat.le_of_ble_eq_true rfl) (Nat.le_of_ble_eq_true rfl) dX6_takeVal_105 (gy_z01 (gTk1 htk)) ⟨e_48, e_49, e_50, e_51, z_47, (-1), (by first | exact gTk2 htk (Or.inl rfl) | exact gTk4 (gTk2 htk (Or.inl rfl)) (gTkY htk0 c_38).2.2.2 htt0.1 | exact gTk4 (gTk2 htk (Or.inl rfl)) (gTkY htk0 c_39).2.2.2 htt0.1), (by omega), rfl, rfl⟩
      · refine lv_aload_n hx hb dX6_takeVal_51 rfl (lv_at hl 1 rfl) ?_
        refine lv_bipush (v := 20) hx hb dX6_takeVal_52 (by decide) ?_
        refine gx_goi (wc := [(h0, .inr (6, [v0, .int pv, .int fv, v3, .ref k4, .ref k5, .ref k6, v7, .int (nI t), v9, .int vr, .int vl])), (k4, .inl (cI, 501, .inl (fun j => nI (Kd j)))), (k5, .inl (cI, 501, .inl sf))]) (wr := [(k6, .inl (cI, 501, .inl nf))]) (va_runV (As := [.int 20]) (rest := []) ⟨hx, hb, hml, hown, hts⟩ (e_take l D cI cB cZ h0 k4 k5 (v0) (v3) (.ref k6) (v7) (v9) (.int vr) (.int vl) pv fv Kd sf t 20 (by omega) _) (cwV 1 hts gP_c_takeVal1__e_take rfl rfl rfl (by decide +kernel) ⟨Nat.le_of_ble_eq_true rfl, Nat.le_of_ble_eq_true rfl⟩) (gx_preV (ci := 6) (q0 := 0) hK gN.nil hP hD [0, 1, 2] rfl rfl rfl rfl) rfl rfl hl.1 rfl (lv_room (Nat.le_of_ble_eq_true rfl)) dX6_takeVal_54 ⟨Nat.le_of_ble_eq_true rfl, Nat.le_of_ble_eq_true rfl⟩) hP hD hS hA [0, 1, 2] [3] rfl rfl rfl (by decide) (fun r1 w1 H locs hp hP hD hS => ?_)
        obtain ⟨e_53, e_54, e_55, e_56, hq_57, h9, rfl⟩ := hp
        have h9 := h9.symm
        subst h9
        have hq_57 : (e_53 = 0 ∧ e_56 = t ∧ ¬ e_55 = 0) ∨ (e_53 = 1 ∧ e_56 = t + 1 ∧ t < 500 ∧ nI (Kd t) = 20 ∧ e_55 = fv) := hq_57
        have hP : va_P D vwCl [(k6, .inl (cI, 501, .inl nf)), (h0, .inr (6, [v0, .int e_54, .int e_55, v3, .ref k4, .ref k5, .ref k6, v7, .int (nI e_56), v9, .int vr, .int vl])), (k4, .inl (cI, 501, .inl (fun j => nI (Kd j)))), (k5, .inl (cI, 501, .inl sf))] H := hP
        have hD : va_D A [(k6, .inl (cI, 501, .inl nf)), (h0, .inr (6, [v0, .int e_54, .int e_55, v3, .ref k4, .ref k5, .ref k6, v7, .int (nI e_56), v9, .int vr, .int vl])), (k4, .inl (cI, 501, .inl (fun j => nI (Kd j)))), (k5, .inl (cI, 501, .inl sf))] := hD
        have htk0 := hq_57
        have htt0 := gTk0 htk0 (by omega)
        refine lv_if_ne (tgt := 62) hx hb dX6_takeVal_57 (by decide) (fun c_58 => ?_) (fun c_58 => ?_)
        · refine lv_aload_n hx hb dX6_takeVal_62 rfl (lv_at hl 1 rfl) ?_
          refine lv_iconst (v := (-1)) hx hb dX6_takeVal_63 (by decide) ?_
          refine va_put (D := D) (ci := 6) (v := .int (-1)) (ty := .int) (C := RX6) (T := TX6) (N := 12) hx hb hts (fun _ h => List.mem_cons_of_mem _ (List.mem_append_left _ (List.mem_append_right _ h))) tyX6 tyX6_ok nmX6 hown hK hP hD hS 1 rfl rfl 10 (by decide) (hts (.fieldLink RX6 122 "LitmusHall$Reader" "valueReg" "I") (by decide +kernel)) (fun _ h9 => h9) rfl (by decide +kernel) rfl rfl (Nat.le_of_ble_eq_true rfl) dX6_takeVal_64 (fun H locs hP hD hS => ?_)
          have hP : va_P D vwCl [(k6, .inl (cI, 501, .inl nf)), (h0, .inr (6, [v0, .int e_54, .int e_55, v3, .ref k4, .ref k5, .ref k6, v7, .int (nI e_56), v9, .int (-1), .int vl])), (k4, .inl (cI, 501, .inl (fun j => nI (Kd j)))), (k5, .inl (cI, 501, .inl sf))] H := hP
          have hD : va_D A [(k6, .inl (cI, 501, .inl nf)), (h0, .inr (6, [v0, .int e_54, .int e_55, v3, .ref k4, .ref k5, .ref k6, v7, .int (nI e_56), v9, .int (-1), .int vl])), (k4, .inl (cI, 501, .inl (fun j => nI (Kd j)))), (k5, .inl (cI, 501, .inl sf))] := hD
          refine lv_aload_n hx hb dX6_takeVal_67 rfl (lv_at hl 1 rfl) ?_
          refine lv_iload_n hx hb dX6_takeVal_68 rfl (lv_at hl 0 rfl) ?_
          refine lv_bipush (v := 20) hx hb dX6_takeVal_69 (by decide) ?_
          refine gy_ne (a := (Kd t)) (b := 20) (tgt := 87) hx hb (by omega) (by omega) dX6_takeVal_71 (by decide) (fun c_59 => ?_) (fun c_59 => ?_)
          · refine lv_aload_n hx hb dX6_takeVal_87 rfl (lv_at hl 1 rfl) ?_
            refine va_get (D := D) (ci := 6) (v := .ref k6) (C := RX6) (T := TX6) (N := 12) hx hb hts (fun _ h => List.mem_cons_of_mem _ (List.mem_append_left _ (List.mem_append_right _ h))) hown hK hP 1 rfl rfl 6 (by decide) (hts (.fieldLink RX6 29 "LitmusHall$Reader" "numbers" "[I") (by decide +kernel)) (fun _ h9 => h9) rfl dX6_takeVal_88 ?_
            refine lv_aload_n hx hb dX6_takeVal_91 rfl (lv_at hl 1 rfl) ?_
            refine va_get (D := D) (ci := 6) (v := .int (nI e_56)) (C := RX6) (T := TX6) (N := 12) hx hb hts (fun _ h => List.mem_cons_of_mem _ (List.mem_append_left _ (List.mem_append_right _ h))) hown hK hP 1 rfl rfl 8 (by decide) (hts (.fieldLink RX6 45 "LitmusHall$Reader" "at" "I") (by decide +kernel)) (fun _ h9 => h9) rfl dX6_takeVal_92 ?_
            refine gy_ild (i := e_56) hx hb hK hP 0 rfl (by omega) (by omega) dX6_takeVal_95 ?_
            refine gx_gen (fun z_60 => ?_)
            refine va_put (D := D) (ci := 6) (v := .int z_60) (ty := .int) (C := RX6) (T := TX6) (N := 12) hx hb hts (fun _ h => List.mem_cons_of_mem _ (List.mem_append_left _ (List.mem_append_right _ h))) tyX6 tyX6_ok nmX6 hown hK hP hD hS 1 rfl rfl 11 (by decide) (hts (.fieldLink RX6 108 "LitmusHall$Reader" "value" "I") (by decide +kernel)) (fun _ h9 => h9) rfl (by decide +kernel) rfl rfl (Nat.le_of_ble_eq_true rfl) dX6_takeVal_96 (fun H locs hP hD hS => ?_)
            have hP : va_P D vwCl [(k6, .inl (cI, 501, .inl nf)), (h0, .inr (6, [v0, .int e_54, .int e_55, v3, .ref k4, .ref k5, .ref k6, v7, .int (nI e_56), v9, .int (-1), .int z_60])), (k4, .inl (cI, 501, .inl (fun j => nI (Kd j)))), (k5, .inl (cI, 501, .inl sf))] H := hP
            have hD : va_D A [(k6, .inl (cI, 501, .inl nf)), (h0, .inr (6, [v0, .int e_54, .int e_55, v3, .ref k4, .ref k5, .ref k6, v7, .int (nI e_56), v9, .int (-1), .int z_60])), (k4, .inl (cI, 501, .inl (fun j => nI (Kd j)))), (k5, .inl (cI, 501, .inl sf))] := hD
            refine lv_aload_n hx hb dX6_takeVal_99 rfl (lv_at hl 1 rfl) ?_
            refine lv_bipush (v := 16) hx hb dX6_takeVal_100 (by decide) ?_
            refine gx_goi (wc := [(h0, .inr (6, [v0, .int e_54, .int e_55, v3, .ref k4, .ref k5, .ref k6, v7, .int (nI e_56), v9, .int (-1), .int z_60])), (k4, .inl (cI, 501, .inl (fun j => nI (Kd j)))), (k5, .inl (cI, 501, .inl sf))]) (wr := [(k6, .inl (cI, 501, .inl nf))]) (va_runV (As := [.int 16]) (rest := []) ⟨hx, hb, hml, hown, hts⟩ (e_take l D cI cB cZ h0 k4 k5 (v0) (v3) (.ref k6) (v7) (v9) (.int (-1)) (.int z_60) e_54 e_55 Kd sf e_56 16 (by omega) _) (cwV 1 hts gP_c_takeVal1__e_take rfl rfl rfl (by decide +kernel) ⟨Nat.le_of_ble_eq_true rfl, Nat.le_of_ble_eq_true rfl⟩) (gx_preV (ci := 6) (q0 := 0) hK gN.nil hP hD [1, 2, 3] rfl rfl rfl rfl) rfl rfl hl.1 rfl (lv_room (Nat.le_of_ble_eq_true rfl)) dX6_takeVal_102 ⟨Nat.le_of_ble_eq_true rfl, Nat.le_of_ble_eq_true rfl⟩) hP hD hS hA [1, 2, 3] [0] rfl rfl rfl (by decide) (fun r1 w1 H locs hp hP hD hS => ?_)
            obtain ⟨e_61, e_62, e_63, e_64, hq_65, h9, rfl⟩ := hp
            have h9 := h9.symm
            subst h9
            have hq_65 : (e_61 = 0 ∧ e_64 = e_56 ∧ ¬ e_63 = 0) ∨ (e_61 = 1 ∧ e_64 = e_56 + 1 ∧ e_56 < 500 ∧ nI (Kd e_56) = 16 ∧ e_63 = e_55) := hq_65
            have hP : va_P D vwCl [(k6, .inl (cI, 501, .inl nf)), (h0, .inr (6, [v0, .int e_62, .int e_63, v3, .ref k4, .ref k5, .ref k6, v7, .int (nI e_64), v9, .int (-1), .int z_60])), (k4, .inl (cI, 501, .inl (fun j => nI (Kd j)))), (k5, .inl (cI, 501, .inl sf))] H := hP
            have hD : va_D A [(k6, .inl (cI, 501, .inl nf)), (h0, .inr (6, [v0, .int e_62, .int e_63, v3, .ref k4, .ref k5, .ref k6, v7, .int (nI e_64), v9, .int (-1), .int z_60])), (k4, .inl (cI, 501, .inl (fun j => nI (Kd j)))), (k5, .inl (cI, 501, .inl sf))] := hD
            have htk := hq_65
            have htt := gTk0 htk (by omega)
            have hP := hP.sub (ws' := [(h0, .inr (6, [v0, .int e_62, .int e_63, v3, .ref k4, .ref k5, .ref k6, v7, .int (nI e_64), v9, .int (-1), .int z_60])), (k4, .inl (cI, 501, .inl (fun j => nI (Kd j)))), (k5, .inl (cI, 501, .inl sf)), (k6, .inl (cI, 501, .inl nf))]) [1, 2, 3, 0] rfl
            have hD := hD.sub (ws' := [(h0, .inr (6, [v0, .int e_62, .int e_63, v3, .ref k4, .ref k5, .ref k6, v7, .int (nI e_64), v9, .int (-1), .int z_60])), (k4, .inl (cI, 501, .inl (fun j => nI (Kd j)))), (k5, .inl (cI, 501, .inl sf)), (k6, .inl (cI, 501, .inl nf))]) [1, 2, 3, 0] (by decide) rfl
            exact gx_zret (w' := [(h0, .inr (6, [v0, .int e_62, .int e_63, v3, .ref k4, .ref k5, .ref k6, v7, .int (nI e_64), v9, .int (-1), .int z_60])), (k4, .inl (cI, 501, .inl (fun j => nI (Kd j)))), (k5, .inl (cI, 501, .inl sf)), (k6, .inl (cI, 501, .inl nf))]) hx hb hr hlk hK hP hD hS (Nat.le_of_ble_eq_true rfl) (Nat.le_of_ble_eq_true rfl) dX6_takeVal_105 (gy_z01 (gTk1 htk)) ⟨e_61, e_62, e_63, e_64, z_60, (-1), (by first | exact gTk2 htk (Or.inl rfl) | exact gTk4 (gTk2 htk (Or.inl rfl)) (gTkY htk0 c_58).2.2.2 htt0.1 | exact gTk4 (gTk2 htk (Or.inl rfl)) (gTkY htk0 c_59).2.2.2 htt0.1), (by omega), rfl, rfl⟩
          · refine lv_aload_n hx hb dX6_takeVal_74 rfl (lv_at hl 1 rfl) ?_
            refine va_get (D := D) (ci := 6) (v := .ref k6) (C := RX6) (T := TX6) (N := 12) hx hb hts (fun _ h => List.mem_cons_of_mem _ (List.mem_append_left _ (List.mem_append_right _ h))) hown hK hP 1 rfl rfl 6 (by decide) (hts (.fieldLink RX6 29 "LitmusHall$Reader" "numbers" "[I") (by decide +kernel)) (fun _ h9 => h9) rfl dX6_takeVal_75 ?_
            refine lv_aload_n hx hb dX6_takeVal_78 rfl (lv_at hl 1 rfl) ?_
            refine va_get (D := D) (ci := 6) (v := .int (nI e_56)) (C := RX6) (T := TX6) (N := 12) hx hb hts (fun _ h => List.mem_cons_of_mem _ (List.mem_append_left _ (List.mem_append_right _ h))) hown hK hP 1 rfl rfl 8 (by decide) (hts (.fieldLink RX6 45 "LitmusHall$Reader" "at" "I") (by decide +kernel)) (fun _ h9 => h9) rfl dX6_takeVal_79 ?_
            refine gy_ild (i := e_56) hx hb hK hP 0 rfl (by omega) (by omega) dX6_takeVal_82 ?_
            refine gx_gen (fun z_66 => ?_)
            refine lv_ineg hx hb dX6_takeVal_83 ?_
            refine gx_gen (fun z_67 => ?_)
            refine lv_goto (tgt := 96) hx hb dX6_takeVal_84 (by decide) ?_
            refine va_put (D := D) (ci := 6) (v := .int z_67) (ty := .int) (C := RX6) (T := TX6) (N := 12) hx hb hts (fun _ h => List.mem_cons_of_mem _ (List.mem_append_left _ (List.mem_append_right _ h))) tyX6 tyX6_ok nmX6 hown hK hP hD hS 1 rfl rfl 11 (by decide) (hts (.fieldLink RX6 108 "LitmusHall$Reader" "value" "I") (by decide +kernel)) (fun _ h9 => h9) rfl (by decide +kernel) rfl rfl (Nat.le_of_ble_eq_true rfl) dX6_takeVal_96 (fun H locs hP hD hS => ?_)
            have hP : va_P D vwCl [(k6, .inl (cI, 501, .inl nf)), (h0, .inr (6, [v0, .int e_54, .int e_55, v3, .ref k4, .ref k5, .ref k6, v7, .int (nI e_56), v9, .int (-1), .int z_67])), (k4, .inl (cI, 501, .inl (fun j => nI (Kd j)))), (k5, .inl (cI, 501, .inl sf))] H := hP
            have hD : va_D A [(k6, .inl (cI, 501, .inl nf)), (h0, .inr (6, [v0, .int e_54, .int e_55, v3, .ref k4, .ref k5, .ref k6, v7, .int (nI e_56), v9, .int (-1), .int z_67])), (k4, .inl (cI, 501, .inl (fun j => nI (Kd j)))), (k5, .inl (cI, 501, .inl sf))] := hD
            refine lv_aload_n hx hb dX6_takeVal_99 rfl (lv_at hl 1 rfl) ?_
            refine lv_bipush (v := 16) hx hb dX6_takeVal_100 (by decide) ?_
            refine gx_goi (wc := [(h0, .inr (6, [v0, .int e_54, .int e_55, v3, .ref k4, .ref k5, .ref k6, v7, .int (nI e_56), v9, .int (-1), .int z_67])), (k4, .inl (cI, 501, .inl (fun j => nI (Kd j)))), (k5, .inl (cI, 501, .inl sf))]) (wr := [(k6, .inl (cI, 501, .inl nf))]) (va_runV (As := [.int 16]) (rest := []) ⟨hx, hb, hml, hown, hts⟩ (e_take l D cI cB cZ h0 k4 k5 (v0) (v3) (.ref k6) (v7) (v9) (.int (-1)) (.int z_67) e_54 e_55 Kd sf e_56 16 (by omega) _) (cwV 1 hts gP_c_takeVal1__e_take rfl rfl rfl (by decide +kernel) ⟨Nat.le_of_ble_eq_true rfl, Nat.le_of_ble_eq_true rfl⟩) (gx_preV (ci := 6) (q0 := 0) hK gN.nil hP hD [1, 2, 3] rfl rfl rfl rfl) rfl rfl hl.1 rfl (lv_room (Nat.le_of_ble_eq_true rfl)) dX6_takeVal_102 ⟨Nat.le_of_ble_eq_true rfl, Nat.le_of_ble_eq_true rfl⟩) hP hD hS hA [1, 2, 3] [0] rfl rfl rfl (by decide) (fun r1 w1 H locs hp hP hD hS => ?_)
            obtain ⟨e_68, e_69, e_70, e_71, hq_72, h9, rfl⟩ := hp
            have h9 := h9.symm
            subst h9
            have hq_72 : (e_68 = 0 ∧ e_71 = e_56 ∧ ¬ e_70 = 0) ∨ (e_68 = 1 ∧ e_71 = e_56 + 1 ∧ e_56 < 500 ∧ nI (Kd e_56) = 16 ∧ e_70 = e_55) := hq_72
            have hP : va_P D vwCl [(k6, .inl (cI, 501, .inl nf)), (h0, .inr (6, [v0, .int e_69, .int e_70, v3, .ref k4, .ref k5, .ref k6, v7, .int (nI e_71), v9, .int (-1), .int z_67])), (k4, .inl (cI, 501, .inl (fun j => nI (Kd j)))), (k5, .inl (cI, 501, .inl sf))] H := hP
            have hD : va_D A [(k6, .inl (cI, 501, .inl nf)), (h0, .inr (6, [v0, .int e_69, .int e_70, v3, .ref k4, .ref k5, .ref k6, v7, .int (nI e_71), v9, .int (-1), .int z_67])), (k4, .inl (cI, 501, .inl (fun j => nI (Kd j)))), (k5, .inl (cI, 501, .inl sf))] := hD
            have htk := hq_72
            have htt := gTk0 htk (by omega)
            have hP := hP.sub (ws' := [(h0, .inr (6, [v0, .int e_69, .int e_70, v3, .ref k4, .ref k5, .ref k6, v7, .int (nI e_71), v9, .int (-1), .int z_67])), (k4, .inl (cI, 501, .inl (fun j => nI (Kd j)))), (k5, .inl (cI, 501, .inl sf)), (k6, .inl (cI, 501, .inl nf))]) [1, 2, 3, 0] rfl
            have hD := hD.sub (ws' := [(h0, .inr (6, [v0, .int e_69, .int e_70, v3, .ref k4, .ref k5, .ref k6, v7, .int (nI e_71), v9, .int (-1), .int z_67])), (k4, .inl (cI, 501, .inl (fun j => nI (Kd j)))), (k5, .inl (cI, 501, .inl sf)), (k6, .inl (cI, 501, .inl nf))]) [1, 2, 3, 0] (by decide) rfl
            exact gx_zret (w' := [(h0, .inr (6, [v0, .int e_69, .int e_70, v3, .ref k4, .ref k5, .ref k6, v7, .int (nI e_71), v9, .int (-1), .int z_67])), (k4, .inl (cI, 501, .inl (fun j => nI (Kd j)))), (k5, .inl (cI, 501, .inl sf)), (k6, .inl (cI, 501, .inl nf))]) hx hb hr hlk hK hP hD hS (Nat.le_of_ble_eq_true rfl) (Nat.le_of_ble_eq_true rfl) dX6_takeVal_105 (gy_z01 (gTk1 htk)) ⟨e_68, e_69, e_70, e_71, z_67, (-1), (by first | exact gTk2 htk (Or.inl rfl) | exact gTk4 (gTk2 htk (Or.inl rfl)) (gTkY htk0 c_58).2.2.2 htt0.1 | exact gTk4 (gTk2 htk (Or.inl rfl)) (gTkY htk0 c_59).2.2.2 htt0.1), (by omega), rfl, rfl⟩
        · refine lv_iconst (v := 0) hx hb dX6_takeVal_60 (by decide) ?_
          have hP := hP.sub (ws' := [(h0, .inr (6, [v0, .int e_54, .int e_55, v3, .ref k4, .ref k5, .ref k6, v7, .int (nI e_56), v9, .int vr, .int vl])), (k4, .inl (cI, 501, .inl (fun j => nI (Kd j)))), (k5, .inl (cI, 501, .inl sf)), (k6, .inl (cI, 501, .inl nf))]) [1, 2, 3, 0] rfl
          have hD := hD.sub (ws' := [(h0, .inr (6, [v0, .int e_54, .int e_55, v3, .ref k4, .ref k5, .ref k6, v7, .int (nI e_56), v9, .int vr, .int vl])), (k4, .inl (cI, 501, .inl (fun j => nI (Kd j)))), (k5, .inl (cI, 501, .inl sf)), (k6, .inl (cI, 501, .inl nf))]) [1, 2, 3, 0] (by decide) rfl
          exact gx_zret (w' := [(h0, .inr (6, [v0, .int e_54, .int e_55, v3, .ref k4, .ref k5, .ref k6, v7, .int (nI e_56), v9, .int vr, .int vl])), (k4, .inl (cI, 501, .inl (fun j => nI (Kd j)))), (k5, .inl (cI, 501, .inl sf)), (k6, .inl (cI, 501, .inl nf))]) hx hb hr hlk hK hP hD hS (Nat.le_of_ble_eq_true rfl) (Nat.le_of_ble_eq_true rfl) dX6_takeVal_61 rfl ⟨0, e_54, e_55, e_56, vl, vr, (Or.inl ⟨rfl, by rcases htk0 with h | h; exact h.2.2; exact absurd (h.1.symm.trans c_58) (by decide)⟩), htt0, rfl, rfl⟩
    · refine lv_aload_n hx hb dX6_takeVal_26 rfl (lv_at hl 1 rfl) ?_
      refine lv_iload_n hx hb dX6_takeVal_27 rfl (lv_at hl 0 rfl) ?_
      refine lv_bipush (v := 13) hx hb dX6_takeVal_28 (by decide) ?_
      refine lv_isub hx hb dX6_takeVal_30 ?_
      refine gx_top (y := nI ((Kd t) - 13)) (pk_sub (a := Kd t) (b := 13) (by omega)) ?_
      refine va_put (D := D) (ci := 6) (v := .int (nI ((Kd t) - 13))) (ty := .int) (C := RX6) (T := TX6) (N := 12) hx hb hts (fun _ h => List.mem_cons_of_mem _ (List.mem_append_left _ (List.mem_append_right _ h))) tyX6 tyX6_ok nmX6 hown hK hP hD hS 0 rfl rfl 10 (by decide) (hts (.fieldLink RX6 122 "LitmusHall$Reader" "valueReg" "I") (by decide +kernel)) (fun _ h9 => h9) rfl (by decide +kernel) rfl rfl (Nat.le_of_ble_eq_true rfl) dX6_takeVal_31 (fun H locs hP hD hS => ?_)
      have hP : va_P D vwCl [(h0, .inr (6, [v0, .int pv, .int fv, v3, .ref k4, .ref k5, .ref k6, v7, .int (nI t), v9, .int (nI ((Kd t) - 13)), .int vl])), (k4, .inl (cI, 501, .inl (fun j => nI (Kd j)))), (k5, .inl (cI, 501, .inl sf)), (k6, .inl (cI, 501, .inl nf))] H := hP
      have hD : va_D A [(h0, .inr (6, [v0, .int pv, .int fv, v3, .ref k4, .ref k5, .ref k6, v7, .int (nI t), v9, .int (nI ((Kd t) - 13)), .int vl])), (k4, .inl (cI, 501, .inl (fun j => nI (Kd j)))), (k5, .inl (cI, 501, .inl sf)), (k6, .inl (cI, 501, .inl nf))] := hD
      refine lv_aload_n hx hb dX6_takeVal_34 rfl (lv_at hl 1 rfl) ?_
      refine lv_iconst (v := 0) hx hb dX6_takeVal_35 (by decide) ?_
      refine va_put (D := D) (ci := 6) (v := .int 0) (ty := .int) (C := RX6) (T := TX6) (N := 12) hx hb hts (fun _ h => List.mem_cons_of_mem _ (List.mem_append_left _ (List.mem_append_right _ h))) tyX6 tyX6_ok nmX6 hown hK hP hD hS 0 rfl rfl 11 (by decide) (hts (.fieldLink RX6 108 "LitmusHall$Reader" "value" "I") (by decide +kernel)) (fun _ h9 => h9) rfl (by decide +kernel) rfl rfl (Nat.le_of_ble_eq_true rfl) dX6_takeVal_36 (fun H locs hP hD hS => ?_)
      have hP : va_P D vwCl [(h0, .inr (6, [v0, .int pv, .int fv, v3, .ref k4, .ref k5, .ref k6, v7, .int (nI t), v9, .int (nI ((Kd t) - 13)), .int 0])), (k4, .inl (cI, 501, .inl (fun j => nI (Kd j)))), (k5, .inl (cI, 501, .inl sf)), (k6, .inl (cI, 501, .inl nf))] H := hP
      have hD : va_D A [(h0, .inr (6, [v0, .int pv, .int fv, v3, .ref k4, .ref k5, .ref k6, v7, .int (nI t), v9, .int (nI ((Kd t) - 13)), .int 0])), (k4, .inl (cI, 501, .inl (fun j => nI (Kd j)))), (k5, .inl (cI, 501, .inl sf)), (k6, .inl (cI, 501, .inl nf))] := hD
      refine lv_aload_n hx hb dX6_takeVal_39 rfl (lv_at hl 1 rfl) ?_
      refine lv_iload_n hx hb dX6_takeVal_40 rfl (lv_at hl 0 rfl) ?_
      refine gx_goi (wc := [(h0, .inr (6, [v0, .int pv, .int fv, v3, .ref k4, .ref k5, .ref k6, v7, .int (nI t), v9, .int (nI ((Kd t) - 13)), .int 0])), (k4, .inl (cI, 501, .inl (fun j => nI (Kd j)))), (k5, .inl (cI, 501, .inl sf))]) (wr := [(k6, .inl (cI, 501, .inl nf))]) (va_runV (As := [.int (nI (Kd t))]) (rest := []) ⟨hx, hb, hml, hown, hts⟩ (e_take l D cI cB cZ h0 k4 k5 (v0) (v3) (.ref k6) (v7) (v9) (.int (nI ((Kd t) - 13))) (.int 0) pv fv Kd sf t (nI (Kd t)) (by omega) _) (cwV 1 hts gP_c_takeVal1__e_take rfl rfl rfl (by decide +kernel) ⟨Nat.le_of_ble_eq_true rfl, Nat.le_of_ble_eq_true rfl⟩) (gx_preV (ci := 6) (q0 := 0) hK gN.nil hP hD [0, 1, 2] rfl rfl rfl rfl) rfl rfl hl.1 rfl (lv_room (Nat.le_of_ble_eq_true rfl)) dX6_takeVal_41 ⟨Nat.le_of_ble_eq_true rfl, Nat.le_of_ble_eq_true rfl⟩) hP hD hS hA [0, 1, 2] [3] rfl rfl rfl (by decide) (fun r1 w1 H locs hp hP hD hS => ?_)
      obtain ⟨e_73, e_74, e_75, e_76, hq_77, h9, rfl⟩ := hp
      have h9 := h9.symm
      subst h9
      have hq_77 : (e_73 = 0 ∧ e_76 = t ∧ ¬ e_75 = 0) ∨ (e_73 = 1 ∧ e_76 = t + 1 ∧ t < 500 ∧ nI (Kd t) = (nI (Kd t)) ∧ e_75 = fv) := hq_77
      have hP : va_P D vwCl [(k6, .inl (cI, 501, .inl nf)), (h0, .inr (6, [v0, .int e_74, .int e_75, v3, .ref k4, .ref k5, .ref k6, v7, .int (nI e_76), v9, .int (nI ((Kd t) - 13)), .int 0])), (k4, .inl (cI, 501, .inl (fun j => nI (Kd j)))), (k5, .inl (cI, 501, .inl sf))] H := hP
      have hD : va_D A [(k6, .inl (cI, 501, .inl nf)), (h0, .inr (6, [v0, .int e_74, .int e_75, v3, .ref k4, .ref k5, .ref k6, v7, .int (nI e_76), v9, .int (nI ((Kd t) - 13)), .int 0])), (k4, .inl (cI, 501, .inl (fun j => nI (Kd j)))), (k5, .inl (cI, 501, .inl sf))] := hD
      have htk := hq_77
      have htt := gTk0 htk (by omega)
      have hP := hP.sub (ws' := [(h0, .inr (6, [v0, .int e_74, .int e_75, v3, .ref k4, .ref k5, .ref k6, v7, .int (nI e_76), v9, .int (nI ((Kd t) - 13)), .int 0])), (k4, .inl (cI, 501, .inl (fun j => nI (Kd j)))), (k5, .inl (cI, 501, .inl sf)), (k6, .inl (cI, 501, .inl nf))]) [1, 2, 3, 0] rfl
      have hD := hD.sub (ws' := [(h0, .inr (6, [v0, .int e_74, .int e_75, v3, .ref k4, .ref k5, .ref k6, v7, .int (nI e_76), v9, .int (nI ((Kd t) - 13)), .int 0])), (k4, .inl (cI, 501, .inl (fun j => nI (Kd j)))), (k5, .inl (cI, 501, .inl sf)), (k6, .inl (cI, 501, .inl nf))]) [1, 2, 3, 0] (by decide) rfl
      exact gx_zret (w' := [(h0, .inr (6, [v0, .int e_74, .int e_75, v3, .ref k4, .ref k5, .ref k6, v7, .int (nI e_76), v9, .int (nI ((Kd t) - 13)), .int 0])), (k4, .inl (cI, 501, .inl (fun j => nI (Kd j)))), (k5, .inl (cI, 501, .inl sf)), (k6, .inl (cI, 501, .inl nf))]) hx hb hr hlk hK hP hD hS (Nat.le_of_ble_eq_true rfl) (Nat.le_of_ble_eq_true rfl) dX6_takeVal_44 (gy_z01 (gTk1 htk)) ⟨e_73, e_74, e_75, e_76, 0, (nI ((Kd t) - 13)), (gTk2 htk (Or.inr ⟨_, by omega, rfl⟩)), htt, rfl, rfl⟩
def wsP_c_takeSkip : List Cond := .code yX6_takeSkip cX6_takeSkip 1 (some .boolean) :: (([.methodLink RX6 102 yX6_take, .instanceMethod yX6_take, .selects RX6 yX6_take yX6_take, .initialized RX6, .fieldLink RX6 29 "LitmusHall$Reader" "numbers" "[I", .fieldLink RX6 45 "LitmusHall$Reader" "at" "I", .fieldLink RX6 108 "LitmusHall$Reader" "value" "I"] ++ wsX60) ++ (wsP_e_take ++ []))
theorem gW_c_takeSkip : wsP_c_takeSkip.all goodWord = true := by unfold wsP_c_takeSkip; exact gw_mk (by decide +kernel) (gw_app gW_e_take rfl)
set_option maxRecDepth 20000 in
theorem gP_c_takeSkip__e_take : GoodIn wsP_c_takeSkip (wsV RX6 102 RX6 yX6_take wsP_e_take) := gw_in (pre := [.methodLink RX6 102 yX6_take, .instanceMethod yX6_take, .selects RX6 yX6_take yX6_take, .initialized RX6]) (by decide +kernel) (fun _ h => List.mem_cons_of_mem _ (List.mem_append_right _ (List.mem_append_left _ h))) gW_e_take
set_option maxHeartbeats 4000000 in
set_option maxRecDepth 100000 in
theorem c_takeSkip (l : Launch) (D : va_G) (cI cB cZ : ClassId) (h0 : Nat) (k4 : Nat) (k5 : Nat) (k6 : Nat) (v0 : Value) (v3 : Value) (v7 : Value) (v9 : Value) (v10 : Value) (pv : Int32) (fv : Int32) (Kd : Nat → Nat) (sf : Nat → Int32) (nf : Nat → Int32) (t : Nat) (vl : Int32) (ht : t ≤ 500) (hR : gRdI Kd nf sf) : gMi l yX6_takeSkip wsP_c_takeSkip ({ frames := 2, cells := 0, slots := 0, locals := 42 }) D cI cB cZ [] [.ref h0] [(h0, .inr (6, [v0, .int pv, .int fv, v3, .ref k4, .ref k5, .ref k6, v7, .int (nI t), v9, v10, .int vl])), (k4, .inl (cI, 501, .inl (fun j => nI (Kd j)))), (k5, .inl (cI, 501, .inl sf)), (k6, .inl (cI, 501, .inl nf))] (fun r9 w9 => ∃ z : Int32, ∃ pv9 : Int32, ∃ fv9 : Int32, ∃ t9 : Nat, ∃ vl9 : Int32, ((z = 0 ∧ ¬ fv9 = 0) ∨ (z = 1 ∧ fv9 = fv ∧ t < t9 ∧ (∃ x, x ≤ 999 ∧ vl9 = nI x))) ∧ (t ≤ t9 ∧ t9 ≤ 500) ∧ r9 = z ∧ w9 = [(h0, .inr (6, [v0, .int pv9, .int fv9, v3, .ref k4, .ref k5, .ref k6, v7, .int (nI t9), v9, v10, .int vl9])), (k4, .inl (cI, 501, .inl (fun j => nI (Kd j)))), (k5, .inl (cI, 501, .inl sf)), (k6, .inl (cI, 501, .inl nf))]) := by
  refine gMi.of (cc := cX6_takeSkip) (maxL := 1) (ret := (some .boolean)) (by decide) rfl (Nat.le_of_ble_eq_true rfl) (fun p e s m below meth c A ls hx hb hr hlk hml hts hown hin hA hP hK hD hS hN hl => ?_)
  have hown : s.vm.findClass RX6 = some m.cls := hown
  have hl : lv_has ls 1 [(0, .ref h0)] := hl
  refine lv_aload_n hx hb dX6_takeSkip_0 rfl (lv_at hl 0 rfl) ?_
  refine lv_bipush (v := 12) hx hb dX6_takeSkip_1 (by decide) ?_
  refine gx_goi (wc := [(h0, .inr (6, [v0, .int pv, .int fv, v3, .ref k4, .ref k5, .ref k6, v7, .int (nI t), v9, v10, .int vl])), (k4, .inl (cI, 501, .inl (fun j => nI (Kd j)))), (k5, .inl (cI, 501, .inl sf))]) (wr := [(k6, .inl (cI, 501, .inl nf))]) (va_runV (As := [.int 12]) (rest := []) ⟨hx, hb, hml, hown, hts⟩ (e_take l D cI cB cZ h0 k4 k5 (v0) (v3) (.ref k6) (v7) (v9) (v10) (.int vl) pv fv Kd sf t 12 (by omega) _) (cwV 1 hts gP_c_takeSkip__e_take rfl rfl rfl (by decide +kernel) ⟨Nat.le_of_ble_eq_true rfl, Nat.le_of_ble_eq_true rfl⟩) (gx_preV (ci := 6) (q0 := 0) hK gN.nil hP hD [0, 1, 2] rfl rfl rfl rfl) rfl rfl hl.1 rfl (lv_room (Nat.le_of_ble_eq_true rfl)) dX6_takeSkip_3 ⟨Nat.le_of_ble_eq_true rfl, Nat.le_of_ble_eq_true rfl⟩) hP hD hS hA [0, 1, 2] [3] rfl rfl rfl (by decide) (fun r1 w1 H locs hp hP hD hS => ?_)
  obtain ⟨e_1, e_2, e_3, t1, hq_4, h9, rfl⟩ := hp
  have h9 := h9.symm
  subst h9
  have hq_4 : (e_1 = 0 ∧ t1 = t ∧ ¬ e_3 = 0) ∨ (e_1 = 1 ∧ t1 = t + 1 ∧ t < 500 ∧ nI (Kd t) = 12 ∧ e_3 = fv) := hq_4
  have hP : va_P D vwCl [(k6, .inl (cI, 501, .inl nf)), (h0, .inr (6, [v0, .int e_2, .int e_3, v3, .ref k4, .ref k5, .ref k6, v7, .int (nI t1), v9, v10, .int vl])), (k4, .inl (cI, 501, .inl (fun j => nI (Kd j)))), (k5, .inl (cI, 501, .inl sf))] H := hP
  have hD : va_D A [(k6, .inl (cI, 501, .inl nf)), (h0, .inr (6, [v0, .int e_2, .int e_3, v3, .ref k4, .ref k5, .ref k6, v7, .int (nI t1), v9, v10, .int vl])), (k4, .inl (cI, 501, .inl (fun j => nI (Kd j)))), (k5, .inl (cI, 501, .inl sf))] := hD
  have htk0 := hq_4
  have htt0 := gTk0 htk0 (by omega)
  refine lv_if_ne (tgt := 11) hx hb dX6_takeSkip_6 (by decide) (fun c_5 => ?_) (fun c_5 => ?_)
  · have hty0 := gTkY htk0 c_5
    refine lv_aload_n hx hb dX6_takeSkip_11 rfl (lv_at hl 0 rfl) ?_
    refine lv_aload_n hx hb dX6_takeSkip_12 rfl (lv_at hl 0 rfl) ?_
    refine va_get (D := D) (ci := 6) (v := .ref k6) (C := RX6) (T := TX6) (N := 12) hx hb hts (fun _ h => List.mem_cons_of_mem _ (List.mem_append_left _ (List.mem_append_right _ h))) hown hK hP 1 rfl rfl 6 (by decide) (hts (.fieldLink RX6 29 "LitmusHall$Reader" "numbers" "[I") (by decide +kernel)) (fun _ h9 => h9) rfl dX6_takeSkip_13 ?_
    refine lv_aload_n hx hb dX6_takeSkip_16 rfl (lv_at hl 0 rfl) ?_
    refine va_get (D := D) (ci := 6) (v := .int (nI t1)) (C := RX6) (T := TX6) (N := 12) hx hb hts (fun _ h => List.mem_cons_of_mem _ (List.mem_append_left _ (List.mem_append_right _ h))) hown hK hP 1 rfl rfl 8 (by decide) (hts (.fieldLink RX6 45 "LitmusHall$Reader" "at" "I") (by decide +kernel)) (fun _ h9 => h9) rfl dX6_takeSkip_17 ?_
    refine gy_ild (i := t1) hx hb hK hP 0 rfl (by omega) (by omega) dX6_takeSkip_20 ?_
    refine gx_gene (fun nv9 hnv9 => ?_)
    refine va_put (D := D) (ci := 6) (v := .int nv9) (ty := .int) (C := RX6) (T := TX6) (N := 12) hx hb hts (fun _ h => List.mem_cons_of_mem _ (List.mem_append_left _ (List.mem_append_right _ h))) tyX6 tyX6_ok nmX6 hown hK hP hD hS 1 rfl rfl 11 (by decide) (hts (.fieldLink RX6 108 "LitmusHall$Reader" "value" "I") (by decide +kernel)) (fun _ h9 => h9) rfl (by decide +kernel) rfl rfl (Nat.le_of_ble_eq_true rfl) dX6_takeSkip_21 (fun H locs hP hD hS => ?_)
    have hP : va_P D vwCl [(k6, .inl (cI, 501, .inl nf)), (h0, .inr (6, [v0, .int e_2, .int e_3, v3, .ref k4, .ref k5, .ref k6, v7, .int (nI t1), v9, v10, .int nv9])), (k4, .inl (cI, 501, .inl (fun j => nI (Kd j)))), (k5, .inl (cI, 501, .inl sf))] H := hP
    have hD : va_D A [(k6, .inl (cI, 501, .inl nf)), (h0, .inr (6, [v0, .int e_2, .int e_3, v3, .ref k4, .ref k5, .ref k6, v7, .int (nI t1), v9, v10, .int nv9])), (k4, .inl (cI, 501, .inl (fun j => nI (Kd j)))), (k5, .inl (cI, 501, .inl sf))] := hD
    refine lv_aload_n hx hb dX6_takeSkip_24 rfl (lv_at hl 0 rfl) ?_
    refine lv_bipush (v := 16) hx hb dX6_takeSkip_25 (by decide) ?_
    refine gx_goi (wc := [(h0, .inr (6, [v0, .int e_2, .int e_3, v3, .ref k4, .ref k5, .ref k6, v7, .int (nI t1), v9, v10, .int nv9])), (k4, .inl (cI, 501, .inl (fun j => nI (Kd j)))), (k5, .inl (cI, 501, .inl sf))]) (wr := [(k6, .inl (cI, 501, .inl nf))]) (va_runV (As := [.int 16]) (rest := []) ⟨hx, hb, hml, hown, hts⟩ (e_take l D cI cB cZ h0 k4 k5 (v0) (v3) (.ref k6) (v7) (v9) (v10) (.int nv9) e_2 e_3 Kd sf t1 16 (by omega) _) (cwV 1 hts gP_c_takeSkip__e_take rfl rfl rfl (by decide +kernel) ⟨Nat.le_of_ble_eq_true rfl, Nat.le_of_ble_eq_true rfl⟩) (gx_preV (ci := 6) (q0 := 0) hK gN.nil hP hD [1, 2, 3] rfl rfl rfl rfl) rfl rfl hl.1 rfl (lv_room (Nat.le_of_ble_eq_true rfl)) dX6_takeSkip_27 ⟨Nat.le_of_ble_eq_true rfl, Nat.le_of_ble_eq_true rfl⟩) hP hD hS hA [1, 2, 3] [0] rfl rfl rfl (by decide) (fun r1 w1 H locs hp hP hD hS => ?_)
    obtain ⟨e_6, e_7, e_8, e_9, hq_10, h9, rfl⟩ := hp
    have h9 := h9.symm
    subst h9
    have hq_10 : (e_6 = 0 ∧ e_9 = t1 ∧ ¬ e_8 = 0) ∨ (e_6 = 1 ∧ e_9 = t1 + 1 ∧ t1 < 500 ∧ nI (Kd t1) = 16 ∧ e_8 = e_3) := hq_10
    have hP : va_P D vwCl [(k6, .inl (cI, 501, .inl nf)), (h0, .inr (6, [v0, .int e_7, .int e_8, v3, .ref k4, .ref k5, .ref k6, v7, .int (nI e_9), v9, v10, .int nv9])), (k4, .inl (cI, 501, .inl (fun j => nI (Kd j)))), (k5, .inl (cI, 501, .inl sf))] H := hP
    have hD : va_D A [(k6, .inl (cI, 501, .inl nf)), (h0, .inr (6, [v0, .int e_7, .int e_8, v3, .ref k4, .ref k5, .ref k6, v7, .int (nI e_9), v9, v10, .int nv9])), (k4, .inl (cI, 501, .inl (fun j => nI (Kd j)))), (k5, .inl (cI, 501, .inl sf))] := hD
    have htk := hq_10
    have htt := gTk0 htk (by omega)
    have hmx : nI (Kd t1) = 16 → ∃ x, x ≤ 999 ∧ nv9 = nI x := fun h => by obtain ⟨mm, hmm, emm⟩ := hR.2.1 t1 (by omega) ((nI_eq (a := Kd t1) (b := 16) (by have := hR.1 t1 (by omega); omega) (by decide)).mp h); exact ⟨mm, hmm, hnv9.trans emm⟩
    have hP := hP.sub (ws' := [(h0, .inr (6, [v0, .int e_7, .int e_8, v3, .ref k4, .ref k5, .ref k6, v7, .int (nI e_9), v9, v10, .int nv9])), (k4, .inl (cI, 501, .inl (fun j => nI (Kd j)))), (k5, .inl (cI, 501, .inl sf)), (k6, .inl (cI, 501, .inl nf))]) [1, 2, 3, 0] rfl
    have hD := hD.sub (ws' := [(h0, .inr (6, [v0, .int e_7, .int e_8, v3, .ref k4, .ref k5, .ref k6, v7, .int (nI e_9), v9, v10, .int nv9])), (k4, .inl (cI, 501, .inl (fun j => nI (Kd j)))), (k5, .inl (cI, 501, .inl sf)), (k6, .inl (cI, 501, .inl nf))]) [1, 2, 3, 0] (by decide) rfl
    exact gx_zret (w' := [(h0, .inr (6, [v0, .int e_7, .int e_8, v3, .ref k4, .ref k5, .ref k6, v7, .int (nI e_9), v9, v10, .int nv9])), (k4, .inl (cI, 501, .inl (fun j => nI (Kd j)))), (k5, .inl (cI, 501, .inl sf)), (k6, .inl (cI, 501, .inl nf))]) hx hb hr hlk hK hP hD hS (Nat.le_of_ble_eq_true rfl) (Nat.le_of_ble_eq_true rfl) dX6_takeSkip_30 (gy_z01 (gTk1 htk)) ⟨e_6, e_7, e_8, e_9, nv9, (gTk4 (gTk3 htk hmx) hty0.2.2.2 htt0.1), (by omega), rfl, rfl⟩
  · refine lv_iconst (v := 0) hx hb dX6_takeSkip_9 (by decide) ?_
    have hP := hP.sub (ws' := [(h0, .inr (6, [v0, .int e_2, .int e_3, v3, .ref k4, .ref k5, .ref k6, v7, .int (nI t1), v9, v10, .int vl])), (k4, .inl (cI, 501, .inl (fun j => nI (Kd j)))), (k5, .inl (cI, 501, .inl sf)), (k6, .inl (cI, 501, .inl nf))]) [1, 2, 3, 0] rfl
    have hD := hD.sub (ws' := [(h0, .inr (6, [v0, .int e_2, .int e_3, v3, .ref k4, .ref k5, .ref k6, v7, .int (nI t1), v9, v10, .int vl])), (k4, .inl (cI, 501, .inl (fun j => nI (Kd j)))), (k5, .inl (cI, 501, .inl sf)), (k6, .inl (cI, 501, .inl nf))]) [1, 2, 3, 0] (by decide) rfl
    exact gx_zret (w' := [(h0, .inr (6, [v0, .int e_2, .int e_3, v3, .ref k4, .ref k5, .ref k6, v7, .int (nI t1), v9, v10, .int vl])), (k4, .inl (cI, 501, .inl (fun j => nI (Kd j)))), (k5, .inl (cI, 501, .inl sf)), (k6, .inl (cI, 501, .inl nf))]) hx hb hr hlk hK hP hD hS (Nat.le_of_ble_eq_true rfl) (Nat.le_of_ble_eq_true rfl) dX6_takeSkip_10 rfl ⟨0, e_2, e_3, t1, vl, (Or.inl ⟨rfl, by rcases htk0 with h | h; exact h.2.2; exact absurd (h.1.symm.trans c_5) (by decide)⟩), htt0, rfl, rfl⟩
