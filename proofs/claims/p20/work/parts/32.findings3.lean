theorem dX2_compare_0 : decode cX2_compare 0 = .ok (.iconst 0, 1) := by decide +kernel
theorem dX2_compare_1 : decode cX2_compare 1 = .ok (.istore 4, 2) := by decide +kernel
theorem dX2_compare_10 : decode cX2_compare 10 = .ok (.aload_n 0, 1) := by decide +kernel
theorem dX2_compare_11 : decode cX2_compare 11 = .ok (.iload_n 1, 1) := by decide +kernel
theorem dX2_compare_12 : decode cX2_compare 12 = .ok (.iload 4, 2) := by decide +kernel
theorem dX2_compare_14 : decode cX2_compare 14 = .ok (.invokevirtual 68, 3) := by decide +kernel
theorem dX2_compare_17 : decode cX2_compare 17 = .ok (.aload_n 2, 1) := by decide +kernel
theorem dX2_compare_18 : decode cX2_compare 18 = .ok (.iload_n 3, 1) := by decide +kernel
theorem dX2_compare_19 : decode cX2_compare 19 = .ok (.iload 4, 2) := by decide +kernel
theorem dX2_compare_21 : decode cX2_compare 21 = .ok (.invokevirtual 68, 3) := by decide +kernel
theorem dX2_compare_24 : decode cX2_compare 24 = .ok (.invokestatic 69, 3) := by decide +kernel
theorem dX2_compare_27 : decode cX2_compare 27 = .ok (.istore 5, 2) := by decide +kernel
theorem dX2_compare_29 : decode cX2_compare 29 = .ok (.iload 5, 2) := by decide +kernel
theorem dX2_compare_3 : decode cX2_compare 3 = .ok (.iload 4, 2) := by decide +kernel
theorem dX2_compare_31 : decode cX2_compare 31 = .ok (.ifCond .eq 6, 3) := by decide +kernel
theorem dX2_compare_34 : decode cX2_compare 34 = .ok (.iload 5, 2) := by decide +kernel
theorem dX2_compare_36 : decode cX2_compare 36 = .ok (.ireturn, 1) := by decide +kernel
theorem dX2_compare_37 : decode cX2_compare 37 = .ok (.iinc 4 1, 3) := by decide +kernel
theorem dX2_compare_40 : decode cX2_compare 40 = .ok (.goto (-37), 3) := by decide +kernel
theorem dX2_compare_43 : decode cX2_compare 43 = .ok (.iconst 0, 1) := by decide +kernel
theorem dX2_compare_44 : decode cX2_compare 44 = .ok (.ireturn, 1) := by decide +kernel
theorem dX2_compare_5 : decode cX2_compare 5 = .ok (.bipush 13, 2) := by decide +kernel
theorem dX2_compare_7 : decode cX2_compare 7 = .ok (.if_icmp .ge 36, 3) := by decide +kernel
theorem dX2_isSame_0 : decode cX2_isSame 0 = .ok (.aload_n 1, 1) := by decide +kernel
theorem dX2_isSame_1 : decode cX2_isSame 1 = .ok (.getfield 31, 3) := by decide +kernel
theorem dX2_isSame_11 : decode cX2_isSame 11 = .ok (.iconst 0, 1) := by decide +kernel
theorem dX2_isSame_12 : decode cX2_isSame 12 = .ok (.ireturn, 1) := by decide +kernel
theorem dX2_isSame_13 : decode cX2_isSame 13 = .ok (.iconst 0, 1) := by decide +kernel
theorem dX2_isSame_14 : decode cX2_isSame 14 = .ok (.istore_n 2, 1) := by decide +kernel
theorem dX2_isSame_15 : decode cX2_isSame 15 = .ok (.iload_n 2, 1) := by decide +kernel
theorem dX2_isSame_16 : decode cX2_isSame 16 = .ok (.aload_n 0, 1) := by decide +kernel
theorem dX2_isSame_17 : decode cX2_isSame 17 = .ok (.getfield 34, 3) := by decide +kernel
theorem dX2_isSame_20 : decode cX2_isSame 20 = .ok (.if_icmp .ge 45, 3) := by decide +kernel
theorem dX2_isSame_23 : decode cX2_isSame 23 = .ok (.iconst 0, 1) := by decide +kernel
theorem dX2_isSame_24 : decode cX2_isSame 24 = .ok (.istore_n 3, 1) := by decide +kernel
theorem dX2_isSame_25 : decode cX2_isSame 25 = .ok (.iload_n 3, 1) := by decide +kernel
theorem dX2_isSame_26 : decode cX2_isSame 26 = .ok (.bipush 13, 2) := by decide +kernel
theorem dX2_isSame_28 : decode cX2_isSame 28 = .ok (.if_icmp .ge 31, 3) := by decide +kernel
theorem dX2_isSame_31 : decode cX2_isSame 31 = .ok (.aload_n 0, 1) := by decide +kernel
theorem dX2_isSame_32 : decode cX2_isSame 32 = .ok (.iload_n 2, 1) := by decide +kernel
theorem dX2_isSame_33 : decode cX2_isSame 33 = .ok (.iload_n 3, 1) := by decide +kernel
theorem dX2_isSame_34 : decode cX2_isSame 34 = .ok (.invokevirtual 68, 3) := by decide +kernel
theorem dX2_isSame_37 : decode cX2_isSame 37 = .ok (.aload_n 1, 1) := by decide +kernel
theorem dX2_isSame_38 : decode cX2_isSame 38 = .ok (.aload_n 1, 1) := by decide +kernel
theorem dX2_isSame_39 : decode cX2_isSame 39 = .ok (.getfield 45, 3) := by decide +kernel
theorem dX2_isSame_4 : decode cX2_isSame 4 = .ok (.aload_n 0, 1) := by decide +kernel
theorem dX2_isSame_42 : decode cX2_isSame 42 = .ok (.iload_n 2, 1) := by decide +kernel
theorem dX2_isSame_43 : decode cX2_isSame 43 = .ok (.iaload, 1) := by decide +kernel
theorem dX2_isSame_44 : decode cX2_isSame 44 = .ok (.iload_n 3, 1) := by decide +kernel
theorem dX2_isSame_45 : decode cX2_isSame 45 = .ok (.invokevirtual 48, 3) := by decide +kernel
theorem dX2_isSame_48 : decode cX2_isSame 48 = .ok (.if_icmp .eq 5, 3) := by decide +kernel
theorem dX2_isSame_5 : decode cX2_isSame 5 = .ok (.getfield 34, 3) := by decide +kernel
theorem dX2_isSame_51 : decode cX2_isSame 51 = .ok (.iconst 0, 1) := by decide +kernel
theorem dX2_isSame_52 : decode cX2_isSame 52 = .ok (.ireturn, 1) := by decide +kernel
theorem dX2_isSame_53 : decode cX2_isSame 53 = .ok (.iinc 3 1, 3) := by decide +kernel
theorem dX2_isSame_56 : decode cX2_isSame 56 = .ok (.goto (-31), 3) := by decide +kernel
theorem dX2_isSame_59 : decode cX2_isSame 59 = .ok (.iinc 2 1, 3) := by decide +kernel
theorem dX2_isSame_62 : decode cX2_isSame 62 = .ok (.goto (-47), 3) := by decide +kernel
theorem dX2_isSame_65 : decode cX2_isSame 65 = .ok (.iconst 1, 1) := by decide +kernel
theorem dX2_isSame_66 : decode cX2_isSame 66 = .ok (.ireturn, 1) := by decide +kernel
theorem dX2_isSame_8 : decode cX2_isSame 8 = .ok (.if_icmp .eq 5, 3) := by decide +kernel
theorem dX2_numberOfOther_0 : decode cX2_numberOfOther 0 = .ok (.iconst 0, 1) := by decide +kernel
theorem dX2_numberOfOther_1 : decode cX2_numberOfOther 1 = .ok (.istore_n 3, 1) := by decide +kernel
theorem dX2_numberOfOther_10 : decode cX2_numberOfOther 10 = .ok (.aload_n 0, 1) := by decide +kernel
theorem dX2_numberOfOther_11 : decode cX2_numberOfOther 11 = .ok (.getfield 34, 3) := by decide +kernel
theorem dX2_numberOfOther_14 : decode cX2_numberOfOther 14 = .ok (.if_icmp .ge 68, 3) := by decide +kernel
theorem dX2_numberOfOther_17 : decode cX2_numberOfOther 17 = .ok (.iload 4, 2) := by decide +kernel
theorem dX2_numberOfOther_19 : decode cX2_numberOfOther 19 = .ok (.aload_n 1, 1) := by decide +kernel
theorem dX2_numberOfOther_2 : decode cX2_numberOfOther 2 = .ok (.iconst 0, 1) := by decide +kernel
theorem dX2_numberOfOther_20 : decode cX2_numberOfOther 20 = .ok (.getfield 34, 3) := by decide +kernel
theorem dX2_numberOfOther_23 : decode cX2_numberOfOther 23 = .ok (.if_icmp .ge 21, 3) := by decide +kernel
theorem dX2_numberOfOther_26 : decode cX2_numberOfOther 26 = .ok (.aload_n 1, 1) := by decide +kernel
theorem dX2_numberOfOther_27 : decode cX2_numberOfOther 27 = .ok (.iload 4, 2) := by decide +kernel
theorem dX2_numberOfOther_29 : decode cX2_numberOfOther 29 = .ok (.aload_n 0, 1) := by decide +kernel
theorem dX2_numberOfOther_3 : decode cX2_numberOfOther 3 = .ok (.istore 4, 2) := by decide +kernel
theorem dX2_numberOfOther_30 : decode cX2_numberOfOther 30 = .ok (.iload 5, 2) := by decide +kernel
theorem dX2_numberOfOther_32 : decode cX2_numberOfOther 32 = .ok (.invokevirtual 64, 3) := by decide +kernel
theorem dX2_numberOfOther_35 : decode cX2_numberOfOther 35 = .ok (.ifCond .ge 9, 3) := by decide +kernel
theorem dX2_numberOfOther_38 : decode cX2_numberOfOther 38 = .ok (.iinc 4 1, 3) := by decide +kernel
theorem dX2_numberOfOther_41 : decode cX2_numberOfOther 41 = .ok (.goto (-24), 3) := by decide +kernel
theorem dX2_numberOfOther_44 : decode cX2_numberOfOther 44 = .ok (.iload 4, 2) := by decide +kernel
theorem dX2_numberOfOther_46 : decode cX2_numberOfOther 46 = .ok (.aload_n 1, 1) := by decide +kernel
theorem dX2_numberOfOther_47 : decode cX2_numberOfOther 47 = .ok (.getfield 34, 3) := by decide +kernel
theorem dX2_numberOfOther_5 : decode cX2_numberOfOther 5 = .ok (.iconst 0, 1) := by decide +kernel
theorem dX2_numberOfOther_50 : decode cX2_numberOfOther 50 = .ok (.if_icmp .ge 15, 3) := by decide +kernel
theorem dX2_numberOfOther_53 : decode cX2_numberOfOther 53 = .ok (.aload_n 1, 1) := by decide +kernel
theorem dX2_numberOfOther_54 : decode cX2_numberOfOther 54 = .ok (.iload 4, 2) := by decide +kernel
theorem dX2_numberOfOther_56 : decode cX2_numberOfOther 56 = .ok (.aload_n 0, 1) := by decide +kernel
theorem dX2_numberOfOther_57 : decode cX2_numberOfOther 57 = .ok (.iload 5, 2) := by decide +kernel
theorem dX2_numberOfOther_59 : decode cX2_numberOfOther 59 = .ok (.invokevirtual 64, 3) := by decide +kernel
theorem dX2_numberOfOther_6 : decode cX2_numberOfOther 6 = .ok (.istore 5, 2) := by decide +kernel
theorem dX2_numberOfOther_62 : decode cX2_numberOfOther 62 = .ok (.ifCond .eq 14, 3) := by decide +kernel
theorem dX2_numberOfOther_65 : decode cX2_numberOfOther 65 = .ok (.iload_n 3, 1) := by decide +kernel
theorem dX2_numberOfOther_66 : decode cX2_numberOfOther 66 = .ok (.iload_n 2, 1) := by decide +kernel
theorem dX2_numberOfOther_67 : decode cX2_numberOfOther 67 = .ok (.if_icmp .ne 6, 3) := by decide +kernel
theorem dX2_numberOfOther_70 : decode cX2_numberOfOther 70 = .ok (.iload 5, 2) := by decide +kernel
theorem dX2_numberOfOther_72 : decode cX2_numberOfOther 72 = .ok (.ireturn, 1) := by decide +kernel
theorem dX2_numberOfOther_73 : decode cX2_numberOfOther 73 = .ok (.iinc 3 1, 3) := by decide +kernel
theorem dX2_numberOfOther_76 : decode cX2_numberOfOther 76 = .ok (.iinc 5 1, 3) := by decide +kernel
theorem dX2_numberOfOther_79 : decode cX2_numberOfOther 79 = .ok (.goto (-71), 3) := by decide +kernel
theorem dX2_numberOfOther_8 : decode cX2_numberOfOther 8 = .ok (.iload 5, 2) := by decide +kernel
theorem dX2_numberOfOther_82 : decode cX2_numberOfOther 82 = .ok (.iconst (-1), 1) := by decide +kernel
theorem dX2_numberOfOther_83 : decode cX2_numberOfOther 83 = .ok (.ireturn, 1) := by decide +kernel
theorem dX2_sizeOrNone_0 : decode cX2_sizeOrNone 0 = .ok (.aload_n 0, 1) := by decide +kernel
theorem dX2_sizeOrNone_1 : decode cX2_sizeOrNone 1 = .ok (.getfield 19, 3) := by decide +kernel
theorem dX2_sizeOrNone_11 : decode cX2_sizeOrNone 11 = .ok (.aload_n 0, 1) := by decide +kernel
theorem dX2_sizeOrNone_12 : decode cX2_sizeOrNone 12 = .ok (.getfield 34, 3) := by decide +kernel
theorem dX2_sizeOrNone_15 : decode cX2_sizeOrNone 15 = .ok (.ireturn, 1) := by decide +kernel
theorem dX2_sizeOrNone_4 : decode cX2_sizeOrNone 4 = .ok (.ifCond .eq 7, 3) := by decide +kernel
theorem dX2_sizeOrNone_7 : decode cX2_sizeOrNone 7 = .ok (.iconst (-1), 1) := by decide +kernel
theorem dX2_sizeOrNone_8 : decode cX2_sizeOrNone 8 = .ok (.goto 7, 3) := by decide +kernel
theorem dX2_statesOrNone_0 : decode cX2_statesOrNone 0 = .ok (.aload_n 0, 1) := by decide +kernel
theorem dX2_statesOrNone_1 : decode cX2_statesOrNone 1 = .ok (.getfield 19, 3) := by decide +kernel
theorem dX2_statesOrNone_11 : decode cX2_statesOrNone 11 = .ok (.aload_n 0, 1) := by decide +kernel
theorem dX2_statesOrNone_12 : decode cX2_statesOrNone 12 = .ok (.getfield 28, 3) := by decide +kernel
theorem dX2_statesOrNone_15 : decode cX2_statesOrNone 15 = .ok (.ireturn, 1) := by decide +kernel
theorem dX2_statesOrNone_4 : decode cX2_statesOrNone 4 = .ok (.ifCond .eq 7, 3) := by decide +kernel
theorem dX2_statesOrNone_7 : decode cX2_statesOrNone 7 = .ok (.iconst (-1), 1) := by decide +kernel
theorem dX2_statesOrNone_8 : decode cX2_statesOrNone 8 = .ok (.goto 7, 3) := by decide +kernel
theorem dX2_stepOf_0 : decode cX2_stepOf 0 = .ok (.iload_n 2, 1) := by decide +kernel
theorem dX2_stepOf_1 : decode cX2_stepOf 1 = .ok (.ifCond .lt 9, 3) := by decide +kernel
theorem dX2_stepOf_10 : decode cX2_stepOf 10 = .ok (.iconst (-1), 1) := by decide +kernel
theorem dX2_stepOf_11 : decode cX2_stepOf 11 = .ok (.ireturn, 1) := by decide +kernel
theorem dX2_stepOf_12 : decode cX2_stepOf 12 = .ok (.aload_n 0, 1) := by decide +kernel
theorem dX2_stepOf_13 : decode cX2_stepOf 13 = .ok (.getfield 11, 3) := by decide +kernel
theorem dX2_stepOf_16 : decode cX2_stepOf 16 = .ok (.iload_n 1, 1) := by decide +kernel
theorem dX2_stepOf_17 : decode cX2_stepOf 17 = .ok (.bipush 17, 2) := by decide +kernel
theorem dX2_stepOf_19 : decode cX2_stepOf 19 = .ok (.imul, 1) := by decide +kernel
theorem dX2_stepOf_20 : decode cX2_stepOf 20 = .ok (.bipush 13, 2) := by decide +kernel
theorem dX2_stepOf_22 : decode cX2_stepOf 22 = .ok (.iadd, 1) := by decide +kernel
theorem dX2_stepOf_23 : decode cX2_stepOf 23 = .ok (.iload_n 2, 1) := by decide +kernel
theorem dX2_stepOf_24 : decode cX2_stepOf 24 = .ok (.bipush 10, 2) := by decide +kernel
theorem dX2_stepOf_26 : decode cX2_stepOf 26 = .ok (.idiv, 1) := by decide +kernel
theorem dX2_stepOf_27 : decode cX2_stepOf 27 = .ok (.iadd, 1) := by decide +kernel
theorem dX2_stepOf_28 : decode cX2_stepOf 28 = .ok (.iaload, 1) := by decide +kernel
theorem dX2_stepOf_29 : decode cX2_stepOf 29 = .ok (.istore_n 3, 1) := by decide +kernel
theorem dX2_stepOf_30 : decode cX2_stepOf 30 = .ok (.iload_n 3, 1) := by decide +kernel
theorem dX2_stepOf_31 : decode cX2_stepOf 31 = .ok (.iconst 3, 1) := by decide +kernel
theorem dX2_stepOf_32 : decode cX2_stepOf 32 = .ok (.iload_n 2, 1) := by decide +kernel
theorem dX2_stepOf_33 : decode cX2_stepOf 33 = .ok (.bipush 10, 2) := by decide +kernel
theorem dX2_stepOf_35 : decode cX2_stepOf 35 = .ok (.irem, 1) := by decide +kernel
theorem dX2_stepOf_36 : decode cX2_stepOf 36 = .ok (.imul, 1) := by decide +kernel
theorem dX2_stepOf_37 : decode cX2_stepOf 37 = .ok (.ishr, 1) := by decide +kernel
theorem dX2_stepOf_38 : decode cX2_stepOf 38 = .ok (.bipush 7, 2) := by decide +kernel
theorem dX2_stepOf_4 : decode cX2_stepOf 4 = .ok (.iload_n 2, 1) := by decide +kernel
theorem dX2_stepOf_40 : decode cX2_stepOf 40 = .ok (.iand, 1) := by decide +kernel
theorem dX2_stepOf_41 : decode cX2_stepOf 41 = .ok (.iconst 1, 1) := by decide +kernel
theorem dX2_stepOf_42 : decode cX2_stepOf 42 = .ok (.isub, 1) := by decide +kernel
theorem dX2_stepOf_43 : decode cX2_stepOf 43 = .ok (.ireturn, 1) := by decide +kernel
theorem dX2_stepOf_5 : decode cX2_stepOf 5 = .ok (.bipush 38, 2) := by decide +kernel
theorem dX2_stepOf_7 : decode cX2_stepOf 7 = .ok (.if_icmp .lt 5, 3) := by decide +kernel
def wsP_c_statesOr : List Cond := .code yX2_statesOrNone cX2_statesOrNone 1 (some .int) :: (([.fieldLink RX2 19 "LitmusHall$Findings" "full" "Z", .fieldLink RX2 28 "LitmusHall$Findings" "states" "I"] ++ wsX20) ++ [])
theorem gW_c_statesOr : wsP_c_statesOr.all goodWord = true := by unfold wsP_c_statesOr; exact gw_mk (by decide +kernel) rfl
set_option maxHeartbeats 4000000 in
set_option maxRecDepth 100000 in
theorem c_statesOr (l : Launch) (D : va_G) (cI cB cZ : ClassId) (h0 : Nat) (fl : Int32) (st : Nat) (s1 : Nat) (v0 : Value) (v4 : Value)  : gMi l yX2_statesOrNone wsP_c_statesOr ({ frames := 0, cells := 0, slots := 0, locals := 0 }) D cI cB cZ [] [.ref h0] [(h0, .inr (2, [v0, .int fl, .int (nI st), .int (nI s1), v4]))] (fun r9 w9 => ∃ z : Int32, r9 = z ∧ w9 = [(h0, .inr (2, [v0, .int fl, .int (nI st), .int (nI s1), v4]))]) := by
  refine gMi.of (cc := cX2_statesOrNone) (maxL := 1) (ret := (some .int)) (by decide) rfl (Nat.le_of_ble_eq_true rfl) (fun p e s m below meth c A ls hx hb hr hlk hml hts hown hin hA hP hK hD hS hN hl => ?_)
  have hown : s.vm.findClass RX2 = some m.cls := hown
  have hl : lv_has ls 1 [(0, .ref h0)] := hl
  refine lv_aload_n hx hb dX2_statesOrNone_0 rfl (lv_at hl 0 rfl) ?_
  refine va_get (D := D) (ci := 2) (v := .int fl) (C := RX2) (T := TX2) (N := 5) hx hb hts (fun _ h => List.mem_cons_of_mem _ (List.mem_append_left _ (List.mem_append_right _ h))) hown hK hP 0 rfl rfl 1 (by decide) (hts (.fieldLink RX2 19 "LitmusHall$Findings" "full" "Z") (by decide +kernel)) (fun _ h9 => h9) rfl dX2_statesOrNone_1 ?_
  refine lv_if_eq (tgt := 11) hx hb dX2_statesOrNone_4 (by decide) (fun c_1 => ?_) (fun c_1 => ?_)
  · refine lv_aload_n hx hb dX2_statesOrNone_11 rfl (lv_at hl 0 rfl) ?_
    refine va_get (D := D) (ci := 2) (v := .int (nI st)) (C := RX2) (T := TX2) (N := 5) hx hb hts (fun _ h => List.mem_cons_of_mem _ (List.mem_append_left _ (List.mem_append_right _ h))) hown hK hP 0 rfl rfl 2 (by decide) (hts (.fieldLink RX2 28 "LitmusHall$Findings" "states" "I") (by decide +kernel)) (fun _ h9 => h9) rfl dX2_statesOrNone_12 ?_
    exact gx_iret (w' := [(h0, .inr (2, [v0, .int fl, .int (nI st), .int (nI s1), v4]))]) hx hb hr hlk hK hP hD hS (Nat.le_of_ble_eq_true rfl) (Nat.le_of_ble_eq_true rfl) dX2_statesOrNone_15 ⟨(nI st), rfl, rfl⟩
  · refine lv_iconst (v := (-1)) hx hb dX2_statesOrNone_7 (by decide) ?_
    refine lv_goto (tgt := 15) hx hb dX2_statesOrNone_8 (by decide) ?_
    exact gx_iret (w' := [(h0, .inr (2, [v0, .int fl, .int (nI st), .int (nI s1), v4]))]) hx hb hr hlk hK hP hD hS (Nat.le_of_ble_eq_true rfl) (Nat.le_of_ble_eq_true rfl) dX2_statesOrNone_15 ⟨(-1), rfl, rfl⟩
def wsP_c_sizeOr : List Cond := .code yX2_sizeOrNone cX2_sizeOrNone 1 (some .int) :: (([.fieldLink RX2 19 "LitmusHall$Findings" "full" "Z", .fieldLink RX2 34 "LitmusHall$Findings" "size" "I"] ++ wsX20) ++ [])
theorem gW_c_sizeOr : wsP_c_sizeOr.all goodWord = true := by unfold wsP_c_sizeOr; exact gw_mk (by decide +kernel) rfl
set_option maxHeartbeats 4000000 in
set_option maxRecDepth 100000 in
theorem c_sizeOr (l : Launch) (D : va_G) (cI cB cZ : ClassId) (h0 : Nat) (fl : Int32) (st : Nat) (s1 : Nat) (v0 : Value) (v4 : Value)  : gMi l yX2_sizeOrNone wsP_c_sizeOr ({ frames := 0, cells := 0, slots := 0, locals := 0 }) D cI cB cZ [] [.ref h0] [(h0, .inr (2, [v0, .int fl, .int (nI st), .int (nI s1), v4]))] (fun r9 w9 => ∃ z : Int32, r9 = z ∧ w9 = [(h0, .inr (2, [v0, .int fl, .int (nI st), .int (nI s1), v4]))]) := by
  refine gMi.of (cc := cX2_sizeOrNone) (maxL := 1) (ret := (some .int)) (by decide) rfl (Nat.le_of_ble_eq_true rfl) (fun p e s m below meth c A ls hx hb hr hlk hml hts hown hin hA hP hK hD hS hN hl => ?_)
  have hown : s.vm.findClass RX2 = some m.cls := hown
  have hl : lv_has ls 1 [(0, .ref h0)] := hl
  refine lv_aload_n hx hb dX2_sizeOrNone_0 rfl (lv_at hl 0 rfl) ?_
  refine va_get (D := D) (ci := 2) (v := .int fl) (C := RX2) (T := TX2) (N := 5) hx hb hts (fun _ h => List.mem_cons_of_mem _ (List.mem_append_left _ (List.mem_append_right _ h))) hown hK hP 0 rfl rfl 1 (by decide) (hts (.fieldLink RX2 19 "LitmusHall$Findings" "full" "Z") (by decide +kernel)) (fun _ h9 => h9) rfl dX2_sizeOrNone_1 ?_
  refine lv_if_eq (tgt := 11) hx hb dX2_sizeOrNone_4 (by decide) (fun c_1 => ?_) (fun c_1 => ?_)
  · refine lv_aload_n hx hb dX2_sizeOrNone_11 rfl (lv_at hl 0 rfl) ?_
    refine va_get (D := D) (ci := 2) (v := .int (nI s1)) (C := RX2) (T := TX2) (N := 5) hx hb hts (fun _ h => List.mem_cons_of_mem _ (List.mem_append_left _ (List.mem_append_right _ h))) hown hK hP 0 rfl rfl 3 (by decide) (hts (.fieldLink RX2 34 "LitmusHall$Findings" "size" "I") (by decide +kernel)) (fun _ h9 => h9) rfl dX2_sizeOrNone_12 ?_
    exact gx_iret (w' := [(h0, .inr (2, [v0, .int fl, .int (nI st), .int (nI s1), v4]))]) hx hb hr hlk hK hP hD hS (Nat.le_of_ble_eq_true rfl) (Nat.le_of_ble_eq_true rfl) dX2_sizeOrNone_15 ⟨(nI s1), rfl, rfl⟩
  · refine lv_iconst (v := (-1)) hx hb dX2_sizeOrNone_7 (by decide) ?_
    refine lv_goto (tgt := 15) hx hb dX2_sizeOrNone_8 (by decide) ?_
    exact gx_iret (w' := [(h0, .inr (2, [v0, .int fl, .int (nI st), .int (nI s1), v4]))]) hx hb hr hlk hK hP hD hS (Nat.le_of_ble_eq_true rfl) (Nat.le_of_ble_eq_true rfl) dX2_sizeOrNone_15 ⟨(-1), rfl, rfl⟩
theorem gW_c_findInt : wsP_c_findInt.all goodWord = true := by decide +kernel