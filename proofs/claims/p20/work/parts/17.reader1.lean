theorem dX6_behindBlanks_0 : decode cX6_behindBlanks 0 = .ok (.iload_n 2, 1) := by decide +kernel
theorem dX6_behindBlanks_1 : decode cX6_behindBlanks 1 = .ok (.istore_n 3, 1) := by decide +kernel
theorem dX6_behindBlanks_10 : decode cX6_behindBlanks 10 = .ok (.istore 4, 2) := by decide +kernel
theorem dX6_behindBlanks_12 : decode cX6_behindBlanks 12 = .ok (.iload 4, 2) := by decide +kernel
theorem dX6_behindBlanks_14 : decode cX6_behindBlanks 14 = .ok (.bipush 9, 2) := by decide +kernel
theorem dX6_behindBlanks_16 : decode cX6_behindBlanks 16 = .ok (.if_icmp .eq 26, 3) := by decide +kernel
theorem dX6_behindBlanks_19 : decode cX6_behindBlanks 19 = .ok (.iload 4, 2) := by decide +kernel
theorem dX6_behindBlanks_2 : decode cX6_behindBlanks 2 = .ok (.iload_n 3, 1) := by decide +kernel
theorem dX6_behindBlanks_21 : decode cX6_behindBlanks 21 = .ok (.bipush 10, 2) := by decide +kernel
theorem dX6_behindBlanks_23 : decode cX6_behindBlanks 23 = .ok (.if_icmp .eq 19, 3) := by decide +kernel
theorem dX6_behindBlanks_26 : decode cX6_behindBlanks 26 = .ok (.iload 4, 2) := by decide +kernel
theorem dX6_behindBlanks_28 : decode cX6_behindBlanks 28 = .ok (.bipush 13, 2) := by decide +kernel
theorem dX6_behindBlanks_3 : decode cX6_behindBlanks 3 = .ok (.iload_n 1, 1) := by decide +kernel
theorem dX6_behindBlanks_30 : decode cX6_behindBlanks 30 = .ok (.if_icmp .eq 12, 3) := by decide +kernel
theorem dX6_behindBlanks_33 : decode cX6_behindBlanks 33 = .ok (.iload 4, 2) := by decide +kernel
theorem dX6_behindBlanks_35 : decode cX6_behindBlanks 35 = .ok (.bipush 32, 2) := by decide +kernel
theorem dX6_behindBlanks_37 : decode cX6_behindBlanks 37 = .ok (.if_icmp .eq 5, 3) := by decide +kernel
theorem dX6_behindBlanks_4 : decode cX6_behindBlanks 4 = .ok (.if_icmp .ge 44, 3) := by decide +kernel
theorem dX6_behindBlanks_40 : decode cX6_behindBlanks 40 = .ok (.iload_n 3, 1) := by decide +kernel
theorem dX6_behindBlanks_41 : decode cX6_behindBlanks 41 = .ok (.ireturn, 1) := by decide +kernel
theorem dX6_behindBlanks_42 : decode cX6_behindBlanks 42 = .ok (.iinc 3 1, 3) := by decide +kernel
theorem dX6_behindBlanks_45 : decode cX6_behindBlanks 45 = .ok (.goto (-43), 3) := by decide +kernel
theorem dX6_behindBlanks_48 : decode cX6_behindBlanks 48 = .ok (.iload_n 1, 1) := by decide +kernel
theorem dX6_behindBlanks_49 : decode cX6_behindBlanks 49 = .ok (.ireturn, 1) := by decide +kernel
theorem dX6_behindBlanks_7 : decode cX6_behindBlanks 7 = .ok (.aload_n 0, 1) := by decide +kernel
theorem dX6_behindBlanks_8 : decode cX6_behindBlanks 8 = .ok (.iload_n 3, 1) := by decide +kernel
theorem dX6_behindBlanks_9 : decode cX6_behindBlanks 9 = .ok (.baload, 1) := by decide +kernel
theorem dX6_fail_0 : decode cX6_fail 0 = .ok (.aload_n 0, 1) := by decide +kernel
theorem dX6_fail_1 : decode cX6_fail 1 = .ok (.iload_n 1, 1) := by decide +kernel
theorem dX6_fail_10 : decode cX6_fail 10 = .ok (.aload_n 0, 1) := by decide +kernel
theorem dX6_fail_11 : decode cX6_fail 11 = .ok (.getfield 45, 3) := by decide +kernel
theorem dX6_fail_14 : decode cX6_fail 14 = .ok (.iaload, 1) := by decide +kernel
theorem dX6_fail_15 : decode cX6_fail 15 = .ok (.putfield 18, 3) := by decide +kernel
theorem dX6_fail_18 : decode cX6_fail 18 = .ok (.iconst 0, 1) := by decide +kernel
theorem dX6_fail_19 : decode cX6_fail 19 = .ok (.ireturn, 1) := by decide +kernel
theorem dX6_fail_2 : decode cX6_fail 2 = .ok (.putfield 39, 3) := by decide +kernel
theorem dX6_fail_5 : decode cX6_fail 5 = .ok (.aload_n 0, 1) := by decide +kernel
theorem dX6_fail_6 : decode cX6_fail 6 = .ok (.aload_n 0, 1) := by decide +kernel
theorem dX6_fail_7 : decode cX6_fail 7 = .ok (.getfield 26, 3) := by decide +kernel
theorem dX6_isDigit_0 : decode cX6_isDigit 0 = .ok (.iload_n 0, 1) := by decide +kernel
theorem dX6_isDigit_1 : decode cX6_isDigit 1 = .ok (.bipush 48, 2) := by decide +kernel
theorem dX6_isDigit_12 : decode cX6_isDigit 12 = .ok (.iconst 1, 1) := by decide +kernel
theorem dX6_isDigit_13 : decode cX6_isDigit 13 = .ok (.goto 4, 3) := by decide +kernel
theorem dX6_isDigit_16 : decode cX6_isDigit 16 = .ok (.iconst 0, 1) := by decide +kernel
theorem dX6_isDigit_17 : decode cX6_isDigit 17 = .ok (.ireturn, 1) := by decide +kernel
theorem dX6_isDigit_3 : decode cX6_isDigit 3 = .ok (.if_icmp .lt 13, 3) := by decide +kernel
theorem dX6_isDigit_6 : decode cX6_isDigit 6 = .ok (.iload_n 0, 1) := by decide +kernel
theorem dX6_isDigit_7 : decode cX6_isDigit 7 = .ok (.bipush 57, 2) := by decide +kernel
theorem dX6_isDigit_9 : decode cX6_isDigit 9 = .ok (.if_icmp .gt 7, 3) := by decide +kernel
theorem dX6_isLetter_0 : decode cX6_isLetter 0 = .ok (.iload_n 0, 1) := by decide +kernel
theorem dX6_isLetter_1 : decode cX6_isLetter 1 = .ok (.bipush 97, 2) := by decide +kernel
theorem dX6_isLetter_12 : decode cX6_isLetter 12 = .ok (.iconst 1, 1) := by decide +kernel
theorem dX6_isLetter_13 : decode cX6_isLetter 13 = .ok (.goto 4, 3) := by decide +kernel
theorem dX6_isLetter_16 : decode cX6_isLetter 16 = .ok (.iconst 0, 1) := by decide +kernel
theorem dX6_isLetter_17 : decode cX6_isLetter 17 = .ok (.ireturn, 1) := by decide +kernel
theorem dX6_isLetter_3 : decode cX6_isLetter 3 = .ok (.if_icmp .lt 13, 3) := by decide +kernel
theorem dX6_isLetter_6 : decode cX6_isLetter 6 = .ok (.iload_n 0, 1) := by decide +kernel
theorem dX6_isLetter_7 : decode cX6_isLetter 7 = .ok (.bipush 122, 2) := by decide +kernel
theorem dX6_isLetter_9 : decode cX6_isLetter 9 = .ok (.if_icmp .gt 7, 3) := by decide +kernel
theorem dX6_noteLate_0 : decode cX6_noteLate 0 = .ok (.aload_n 0, 1) := by decide +kernel
theorem dX6_noteLate_1 : decode cX6_noteLate 1 = .ok (.getfield 42, 3) := by decide +kernel
theorem dX6_noteLate_12 : decode cX6_noteLate 12 = .ok (.iload_n 1, 1) := by decide +kernel
theorem dX6_noteLate_13 : decode cX6_noteLate 13 = .ok (.iaload, 1) := by decide +kernel
theorem dX6_noteLate_14 : decode cX6_noteLate 14 = .ok (.aload_n 0, 1) := by decide +kernel
theorem dX6_noteLate_15 : decode cX6_noteLate 15 = .ok (.getfield 42, 3) := by decide +kernel
theorem dX6_noteLate_18 : decode cX6_noteLate 18 = .ok (.if_icmp .ge 13, 3) := by decide +kernel
theorem dX6_noteLate_21 : decode cX6_noteLate 21 = .ok (.aload_n 0, 1) := by decide +kernel
theorem dX6_noteLate_22 : decode cX6_noteLate 22 = .ok (.aload_n 0, 1) := by decide +kernel
theorem dX6_noteLate_23 : decode cX6_noteLate 23 = .ok (.getfield 26, 3) := by decide +kernel
theorem dX6_noteLate_26 : decode cX6_noteLate 26 = .ok (.iload_n 1, 1) := by decide +kernel
theorem dX6_noteLate_27 : decode cX6_noteLate 27 = .ok (.iaload, 1) := by decide +kernel
theorem dX6_noteLate_28 : decode cX6_noteLate 28 = .ok (.putfield 42, 3) := by decide +kernel
theorem dX6_noteLate_31 : decode cX6_noteLate 31 = .ok (.return_, 1) := by decide +kernel
theorem dX6_noteLate_4 : decode cX6_noteLate 4 = .ok (.iconst (-1), 1) := by decide +kernel
theorem dX6_noteLate_5 : decode cX6_noteLate 5 = .ok (.if_icmp .eq 16, 3) := by decide +kernel
theorem dX6_noteLate_8 : decode cX6_noteLate 8 = .ok (.aload_n 0, 1) := by decide +kernel
theorem dX6_noteLate_9 : decode cX6_noteLate 9 = .ok (.getfield 26, 3) := by decide +kernel
theorem dX6_take_0 : decode cX6_take 0 = .ok (.aload_n 0, 1) := by decide +kernel
theorem dX6_take_1 : decode cX6_take 1 = .ok (.getfield 22, 3) := by decide +kernel
theorem dX6_take_10 : decode cX6_take 10 = .ok (.if_icmp .eq 9, 3) := by decide +kernel
theorem dX6_take_13 : decode cX6_take 13 = .ok (.aload_n 0, 1) := by decide +kernel
theorem dX6_take_14 : decode cX6_take 14 = .ok (.iconst 1, 1) := by decide +kernel
theorem dX6_take_15 : decode cX6_take 15 = .ok (.invokevirtual 96, 3) := by decide +kernel
theorem dX6_take_18 : decode cX6_take 18 = .ok (.ireturn, 1) := by decide +kernel
theorem dX6_take_19 : decode cX6_take 19 = .ok (.aload_n 0, 1) := by decide +kernel
theorem dX6_take_20 : decode cX6_take 20 = .ok (.getfield 45, 3) := by decide +kernel
theorem dX6_take_23 : decode cX6_take 23 = .ok (.sipush 500, 3) := by decide +kernel
theorem dX6_take_26 : decode cX6_take 26 = .ok (.if_icmp .lt 9, 3) := by decide +kernel
theorem dX6_take_29 : decode cX6_take 29 = .ok (.aload_n 0, 1) := by decide +kernel
theorem dX6_take_30 : decode cX6_take 30 = .ok (.iconst 2, 1) := by decide +kernel
theorem dX6_take_31 : decode cX6_take 31 = .ok (.invokevirtual 96, 3) := by decide +kernel
theorem dX6_take_34 : decode cX6_take 34 = .ok (.ireturn, 1) := by decide +kernel
theorem dX6_take_35 : decode cX6_take 35 = .ok (.aload_n 0, 1) := by decide +kernel
theorem dX6_take_36 : decode cX6_take 36 = .ok (.dup, 1) := by decide +kernel
theorem dX6_take_37 : decode cX6_take 37 = .ok (.getfield 45, 3) := by decide +kernel
theorem dX6_take_4 : decode cX6_take 4 = .ok (.aload_n 0, 1) := by decide +kernel
theorem dX6_take_40 : decode cX6_take 40 = .ok (.iconst 1, 1) := by decide +kernel
theorem dX6_take_41 : decode cX6_take 41 = .ok (.iadd, 1) := by decide +kernel
theorem dX6_take_42 : decode cX6_take 42 = .ok (.putfield 45, 3) := by decide +kernel
theorem dX6_take_45 : decode cX6_take 45 = .ok (.iconst 1, 1) := by decide +kernel
theorem dX6_take_46 : decode cX6_take 46 = .ok (.ireturn, 1) := by decide +kernel
theorem dX6_take_5 : decode cX6_take 5 = .ok (.getfield 45, 3) := by decide +kernel
theorem dX6_take_8 : decode cX6_take 8 = .ok (.iaload, 1) := by decide +kernel
theorem dX6_take_9 : decode cX6_take 9 = .ok (.iload_n 1, 1) := by decide +kernel
def wsP_c_isLetter : List Cond := .code yX6_isLetter cX6_isLetter 1 (some .boolean) :: ([])
set_option maxHeartbeats 4000000 in
set_option maxRecDepth 100000 in
theorem c_isLetter (l : Launch) (D : va_G) (cI cB cZ : ClassId) (x : Int32)  : gMi l yX6_isLetter wsP_c_isLetter ({ frames := 0, cells := 0, slots := 0, locals := 0 }) D cI cB cZ [] [.int x] [] (fun r9 w9 => r9 = (if ¬ x < 97 ∧ ¬ 122 < x then 1 else 0) ∧ w9 = []) := by
  refine gMi.of (cc := cX6_isLetter) (maxL := 1) (ret := (some .boolean)) (by decide) rfl (Nat.le_of_ble_eq_true rfl) (fun p e s m below meth c A ls hx hb hr hlk hml hts hown hin hA hP hK hD hS hN hl => ?_)
  have hown : s.vm.findClass RX6 = some m.cls := hown
  have hl : lv_has ls 1 [(0, .int x)] := hl
  refine lv_iload_n hx hb dX6_isLetter_0 rfl (lv_at hl 0 rfl) ?_
  refine lv_bipush (v := 97) hx hb dX6_isLetter_1 (by decide) ?_
  refine lv_icmp_lt (tgt := 16) hx hb dX6_isLetter_3 (by decide) (fun c_1 => ?_) (fun c_1 => ?_)
  · refine lv_iconst (v := 0) hx hb dX6_isLetter_16 (by decide) ?_
    exact gx_zret (w' := []) hx hb hr hlk hK hP hD hS (Nat.le_of_ble_eq_true rfl) (Nat.le_of_ble_eq_true rfl) dX6_isLetter_17 rfl ⟨(by simp [*]), rfl⟩
  · refine lv_iload_n hx hb dX6_isLetter_6 rfl (lv_at hl 0 rfl) ?_
    refine lv_bipush (v := 122) hx hb dX6_isLetter_7 (by decide) ?_
    refine lv_icmp_gt (tgt := 16) hx hb dX6_isLetter_9 (by decide) (fun c_2 => ?_) (fun c_2 => ?_)
    · refine lv_iconst (v := 0) hx hb dX6_isLetter_16 (by decide) ?_
      exact gx_zret (w' := []) hx hb hr hlk hK hP hD hS (Nat.le_of_ble_eq_true rfl) (Nat.le_of_ble_eq_true rfl) dX6_isLetter_17 rfl ⟨(by simp [*]), rfl⟩
    · refine lv_iconst (v := 1) hx hb dX6_isLetter_12 (by decide) ?_
      refine lv_goto (tgt := 17) hx hb dX6_isLetter_13 (by decide) ?_
      exact gx_zret (w' := []) hx hb hr hlk hK hP hD hS (Nat.le_of_ble_eq_true rfl) (Nat.le_of_ble_eq_true rfl) dX6_isLetter_17 rfl ⟨(by simp [*]), rfl⟩
def wsP_c_isDigit : List Cond := .code yX6_isDigit cX6_isDigit 1 (some .boolean) :: ([])
set_option maxHeartbeats 4000000 in
set_option maxRecDepth 100000 in
theorem c_isDigit (l : Launch) (D : va_G) (cI cB cZ : ClassId) (x : Int32)  : gMi l yX6_isDigit wsP_c_isDigit ({ frames := 0, cells := 0, slots := 0, locals := 0 }) D cI cB cZ [] [.int x] [] (fun r9 w9 => r9 = (if ¬ x < 48 ∧ ¬ 57 < x then 1 else 0) ∧ w9 = []) := by
  refine gMi.of (cc := cX6_isDigit) (maxL := 1) (ret := (some .boolean)) (by decide) rfl (Nat.le_of_ble_eq_true rfl) (fun p e s m below meth c A ls hx hb hr hlk hml hts hown hin hA hP hK hD hS hN hl => ?_)
  have hown : s.vm.findClass RX6 = some m.cls := hown
  have hl : lv_has ls 1 [(0, .int x)] := hl
  refine lv_iload_n hx hb dX6_isDigit_0 rfl (lv_at hl 0 rfl) ?_
  refine lv_bipush (v := 48) hx hb dX6_isDigit_1 (by decide) ?_
  refine lv_icmp_lt (tgt := 16) hx hb dX6_isDigit_3 (by decide) (fun c_1 => ?_) (fun c_1 => ?_)
  · refine lv_iconst (v := 0) hx hb dX6_isDigit_16 (by decide) ?_
    exact gx_zret (w' := []) hx hb hr hlk hK hP hD hS (Nat.le_of_ble_eq_true rfl) (Nat.le_of_ble_eq_true rfl) dX6_isDigit_17 rfl ⟨(by simp [*]), rfl⟩
  · refine lv_iload_n hx hb dX6_isDigit_6 rfl (lv_at hl 0 rfl) ?_
    refine lv_bipush (v := 57) hx hb dX6_isDigit_7 (by decide) ?_
    refine lv_icmp_gt (tgt := 16) hx hb dX6_isDigit_9 (by decide) (fun c_2 => ?_) (fun c_2 => ?_)
    · refine lv_iconst (v := 0) hx hb dX6_isDigit_16 (by decide) ?_
      exact gx_zret (w' := []) hx hb hr hlk hK hP hD hS (Nat.le_of_ble_eq_true rfl) (Nat.le_of_ble_eq_true rfl) dX6_isDigit_17 rfl ⟨(by simp [*]), rfl⟩
    · refine lv_iconst (v := 1) hx hb dX6_isDigit_12 (by decide) ?_
      refine lv_goto (tgt := 17) hx hb dX6_isDigit_13 (by decide) ?_
      exact gx_zret (w' := []) hx hb hr hlk hK hP hD hS (Nat.le_of_ble_eq_true rfl) (Nat.le_of_ble_eq_true rfl) dX6_isDigit_17 rfl ⟨(by simp [*]), rfl⟩
def wsP_c_fail : List Cond := .code yX6_fail cX6_fail 2 (some .boolean) :: ([.fieldLink RX6 39 "LitmusHall$Reader" "fault" "I", .fieldLink RX6 26 "LitmusHall$Reader" "starts" "[I", .fieldLink RX6 45 "LitmusHall$Reader" "at" "I", .fieldLink RX6 18 "LitmusHall$Reader" "place" "I"] ++ wsX60)
set_option maxHeartbeats 4000000 in
set_option maxRecDepth 100000 in
theorem c_fail (l : Launch) (D : va_G) (cI cB cZ : ClassId) (h0 : Nat) (k5 : Nat) (v0 : Value) (v3 : Value) (v4 : Value) (v6 : Value) (v7 : Value) (v9 : Value) (v10 : Value) (v11 : Value) (pv : Int32) (fv : Int32) (sf : Nat → Int32) (t : Nat) (x : Int32) (ht : t ≤ 500) : gMi l yX6_fail wsP_c_fail ({ frames := 0, cells := 0, slots := 0, locals := 0 }) D cI cB cZ [] [.ref h0, .int x] [(h0, .inr (6, [v0, .int pv, .int fv, v3, v4, .ref k5, v6, v7, .int (nI t), v9, v10, v11])), (k5, .inl (cI, 501, .inl sf))] (fun r9 w9 => r9 = 0 ∧ w9 = [(h0, .inr (6, [v0, .int (sf t), .int x, v3, v4, .ref k5, v6, v7, .int (nI t), v9, v10, v11])), (k5, .inl (cI, 501, .inl sf))]) := by
  refine gMi.of (cc := cX6_fail) (maxL := 2) (ret := (some .boolean)) (by decide) rfl (Nat.le_of_ble_eq_true rfl) (fun p e s m below meth c A ls hx hb hr hlk hml hts hown hin hA hP hK hD hS hN hl => ?_)
  have hown : s.vm.findClass RX6 = some m.cls := hown
  have hl : lv_has ls 2 [(0, .ref h0), (1, .int x)] := hl
  refine lv_aload_n hx hb dX6_fail_0 rfl (lv_at hl 0 rfl) ?_
  refine lv_iload_n hx hb dX6_fail_1 rfl (lv_at hl 1 rfl) ?_
  refine va_put (D := D) (ci := 6) (v := .int x) (ty := .int) (C := RX6) (T := TX6) (N := 12) hx hb hts (fun _ h => List.mem_cons_of_mem _ (List.mem_append_right _ h)) tyX6 tyX6_ok nmX6 hown hK hP hD hS 0 rfl rfl 2 (by decide) (hts (.fieldLink RX6 39 "LitmusHall$Reader" "fault" "I") (by decide +kernel)) (fun _ h9 => h9) rfl (by decide +kernel) rfl rfl (Nat.le_of_ble_eq_true rfl) dX6_fail_2 (fun H locs hP hD hS => ?_)
  have hP : va_P D vwCl [(h0, .inr (6, [v0, .int pv, .int x, v3, v4, .ref k5, v6, v7, .int (nI t), v9, v10, v11])), (k5, .inl (cI, 501, .inl sf))] H := hP
  have hD : va_D A [(h0, .inr (6, [v0, .int pv, .int x, v3, v4, .ref k5, v6, v7, .int (nI t), v9, v10, v11])), (k5, .inl (cI, 501, .inl sf))] := hD
  refine lv_aload_n hx hb dX6_fail_5 rfl (lv_at hl 0 rfl) ?_
  refine lv_aload_n hx hb dX6_fail_6 rfl (lv_at hl 0 rfl) ?_
  refine va_get (D := D) (ci := 6) (v := .ref k5) (C := RX6) (T := TX6) (N := 12) hx hb hts (fun _ h => List.mem_cons_of_mem _ (List.mem_append_right _ h)) hown hK hP 0 rfl rfl 5 (by decide) (hts (.fieldLink RX6 26 "LitmusHall$Reader" "starts" "[I") (by decide +kernel)) (fun _ h9 => h9) rfl dX6_fail_7 ?_
  refine lv_aload_n hx hb dX6_fail_10 rfl (lv_at hl 0 rfl) ?_
  refine va_get (D := D) (ci := 6) (v := .int (nI t)) (C := RX6) (T := TX6) (N := 12) hx hb hts (fun _ h => List.mem_cons_of_mem _ (List.mem_append_right _ h)) hown hK hP 0 rfl rfl 8 (by decide) (hts (.fieldLink RX6 45 "LitmusHall$Reader" "at" "I") (by decide +kernel)) (fun _ h9 => h9) rfl dX6_fail_11 ?_
  refine gy_ild (i := t) hx hb hK hP 1 rfl (by omega) (by omega) dX6_fail_14 ?_
  refine va_put (D := D) (ci := 6) (v := .int (sf t)) (ty := .int) (C := RX6) (T := TX6) (N := 12) hx hb hts (fun _ h => List.mem_cons_of_mem _ (List.mem_append_right _ h)) tyX6 tyX6_ok nmX6 hown hK hP hD hS 0 rfl rfl 1 (by decide) (hts (.fieldLink RX6 18 "LitmusHall$Reader" "place" "I") (by decide +kernel)) (fun _ h9 => h9) rfl (by decide +kernel) rfl rfl (Nat.le_of_ble_eq_true rfl) dX6_fail_15 (fun H locs hP hD hS => ?_)
  have hP : va_P D vwCl [(h0, .inr (6, [v0, .int (sf t), .int x, v3, v4, .ref k5, v6, v7, .int (nI t), v9, v10, v11])), (k5, .inl (cI, 501, .inl sf))] H := hP
  have hD : va_D A [(h0, .inr (6, [v0, .int (sf t), .int x, v3, v4, .ref k5, v6, v7, .int (nI t), v9, v10, v11])), (k5, .inl (cI, 501, .inl sf))] := hD
  refine lv_iconst (v := 0) hx hb dX6_fail_18 (by decide) ?_
  exact gx_zret (w' := [(h0, .inr (6, [v0, .int (sf t), .int x, v3, v4, .ref k5, v6, v7, .int (nI t), v9, v10, v11])), (k5, .inl (cI, 501, .inl sf))]) hx hb hr hlk hK hP hD hS (Nat.le_of_ble_eq_true rfl) (Nat.le_of_ble_eq_true rfl) dX6_fail_19 rfl ⟨rfl, rfl⟩