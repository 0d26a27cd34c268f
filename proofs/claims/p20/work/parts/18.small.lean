theorem dX0_toldPlace_0 : decode cX0_toldPlace 0 = .ok (.iload_n 1, 1) := by decide +kernel
theorem dX0_toldPlace_1 : decode cX0_toldPlace 1 = .ok (.ifCond .lt 25, 3) := by decide +kernel
theorem dX0_toldPlace_12 : decode cX0_toldPlace 12 = .ok (.iload_n 1, 1) := by decide +kernel
theorem dX0_toldPlace_13 : decode cX0_toldPlace 13 = .ok (.iconst 2, 1) := by decide +kernel
theorem dX0_toldPlace_14 : decode cX0_toldPlace 14 = .ok (.if_icmp .ge 12, 3) := by decide +kernel
theorem dX0_toldPlace_17 : decode cX0_toldPlace 17 = .ok (.aload_n 0, 1) := by decide +kernel
theorem dX0_toldPlace_18 : decode cX0_toldPlace 18 = .ok (.getfield 26, 3) := by decide +kernel
theorem dX0_toldPlace_21 : decode cX0_toldPlace 21 = .ok (.iload_n 1, 1) := by decide +kernel
theorem dX0_toldPlace_22 : decode cX0_toldPlace 22 = .ok (.iaload, 1) := by decide +kernel
theorem dX0_toldPlace_23 : decode cX0_toldPlace 23 = .ok (.goto 4, 3) := by decide +kernel
theorem dX0_toldPlace_26 : decode cX0_toldPlace 26 = .ok (.iconst (-1), 1) := by decide +kernel
theorem dX0_toldPlace_27 : decode cX0_toldPlace 27 = .ok (.ireturn, 1) := by decide +kernel
theorem dX0_toldPlace_4 : decode cX0_toldPlace 4 = .ok (.iload_n 1, 1) := by decide +kernel
theorem dX0_toldPlace_5 : decode cX0_toldPlace 5 = .ok (.aload_n 0, 1) := by decide +kernel
theorem dX0_toldPlace_6 : decode cX0_toldPlace 6 = .ok (.getfield 42, 3) := by decide +kernel
theorem dX0_toldPlace_9 : decode cX0_toldPlace 9 = .ok (.if_icmp .ge 17, 3) := by decide +kernel
theorem dX2_has_0 : decode cX2_has 0 = .ok (.iload_n 1, 1) := by decide +kernel
theorem dX2_has_1 : decode cX2_has 1 = .ok (.ifCond .lt 15, 3) := by decide +kernel
theorem dX2_has_12 : decode cX2_has 12 = .ok (.iconst 1, 1) := by decide +kernel
theorem dX2_has_13 : decode cX2_has 13 = .ok (.goto 4, 3) := by decide +kernel
theorem dX2_has_16 : decode cX2_has 16 = .ok (.iconst 0, 1) := by decide +kernel
theorem dX2_has_17 : decode cX2_has 17 = .ok (.ireturn, 1) := by decide +kernel
theorem dX2_has_4 : decode cX2_has 4 = .ok (.iload_n 1, 1) := by decide +kernel
theorem dX2_has_5 : decode cX2_has 5 = .ok (.aload_n 0, 1) := by decide +kernel
theorem dX2_has_6 : decode cX2_has 6 = .ok (.getfield 34, 3) := by decide +kernel
theorem dX2_has_9 : decode cX2_has 9 = .ok (.if_icmp .ge 7, 3) := by decide +kernel
theorem dX2_intOf_0 : decode cX2_intOf 0 = .ok (.aload_n 0, 1) := by decide +kernel
theorem dX2_intOf_1 : decode cX2_intOf 1 = .ok (.getfield 11, 3) := by decide +kernel
theorem dX2_intOf_10 : decode cX2_intOf 10 = .ok (.iaload, 1) := by decide +kernel
theorem dX2_intOf_11 : decode cX2_intOf 11 = .ok (.ireturn, 1) := by decide +kernel
theorem dX2_intOf_4 : decode cX2_intOf 4 = .ok (.iload_n 1, 1) := by decide +kernel
theorem dX2_intOf_5 : decode cX2_intOf 5 = .ok (.bipush 17, 2) := by decide +kernel
theorem dX2_intOf_7 : decode cX2_intOf 7 = .ok (.imul, 1) := by decide +kernel
theorem dX2_intOf_8 : decode cX2_intOf 8 = .ok (.iload_n 2, 1) := by decide +kernel
theorem dX2_intOf_9 : decode cX2_intOf 9 = .ok (.iadd, 1) := by decide +kernel
theorem gy_lt2 {x : Int32} {n : Nat} (hn : n < 2 ^ 31) (h1 : ¬ x < 0) (h2 : ¬ nI n ≤ x) : ∃ j, j < n ∧ x = nI j := by
  obtain ⟨j, hj, rfl⟩ := nI_of h1
  exact ⟨j, Nat.lt_of_not_le (fun q => h2 ((nI_leI hn hj).mpr q)), rfl⟩
def wsP_c_toldPlace : List Cond := .code yX0_toldPlace cX0_toldPlace 2 (some .int) :: ([.fieldLink RX0 42 "LitmusHall$Cure" "toldSize" "I", .fieldLink RX0 26 "LitmusHall$Cure" "told" "[I"] ++ wsX00)
set_option maxHeartbeats 4000000 in
set_option maxRecDepth 100000 in
theorem c_toldPlace (l : Launch) (D : va_G) (cI cB cZ : ClassId) (h0 : Nat) (a5 : Nat) (v0 : Value) (v1 : Value) (v2 : Value) (v3 : Value) (ts : Int32) (tf : Nat → Int32) (x : Int32)  : gMi l yX0_toldPlace wsP_c_toldPlace ({ frames := 0, cells := 0, slots := 0, locals := 0 }) D cI cB cZ [] [.ref h0, .int x] [(h0, .inr (0, [v0, v1, v2, v3, .int ts, .ref a5])), (a5, .inl (cI, 2, .inl tf))] (fun r9 w9 => ∃ z : Int32, r9 = z ∧ w9 = [(h0, .inr (0, [v0, v1, v2, v3, .int ts, .ref a5])), (a5, .inl (cI, 2, .inl tf))]) := by
  refine gMi.of (cc := cX0_toldPlace) (maxL := 2) (ret := (some .int)) (by decide) rfl (Nat.le_of_ble_eq_true rfl) (fun p e s m below meth c A ls hx hb hr hlk hml hts hown hin hA hP hK hD hS hN hl => ?_)
  have hown : s.vm.findClass RX0 = some m.cls := hown
  have hl : lv_has ls 2 [(0, .ref h0), (1, .int x)] := hl
  refine lv_iload_n hx hb dX0_toldPlace_0 rfl (lv_at hl 1 rfl) ?_
  refine lv_if_lt (tgt := 26) hx hb dX0_toldPlace_1 (by decide) (fun c_1 => ?_) (fun c_1 => ?_)
  · refine lv_iconst (v := (-1)) hx hb dX0_toldPlace_26 (by decide) ?_
    exact gx_iret (w' := [(h0, .inr (0, [v0, v1, v2, v3, .int ts, .ref a5])), (a5, .inl (cI, 2, .inl tf))]) hx hb hr hlk hK hP hD hS (Nat.le_of_ble_eq_true rfl) (Nat.le_of_ble_eq_true rfl) dX0_toldPlace_27 ⟨(-1), rfl, rfl⟩
  · refine lv_iload_n hx hb dX0_toldPlace_4 rfl (lv_at hl 1 rfl) ?_
    refine lv_aload_n hx hb dX0_toldPlace_5 rfl (lv_at hl 0 rfl) ?_
    refine va_get (D := D) (ci := 0) (v := .int ts) (C := RX0) (T := TX0) (N := 6) hx hb hts (fun _ h => List.mem_cons_of_mem _ (List.mem_append_right _ h)) hown hK hP 0 rfl rfl 4 (by decide) (hts (.fieldLink RX0 42 "LitmusHall$Cure" "toldSize" "I") (by decide +kernel)) (fun _ h9 => h9) rfl dX0_toldPlace_6 ?_
    refine lv_icmp_ge (tgt := 26) hx hb dX0_toldPlace_9 (by decide) (fun c_2 => ?_) (fun c_2 => ?_)
    · refine lv_iconst (v := (-1)) hx hb dX0_toldPlace_26 (by decide) ?_
      exact gx_iret (w' := [(h0, .inr (0, [v0, v1, v2, v3, .int ts, .ref a5])), (a5, .inl (cI, 2, .inl tf))]) hx hb hr hlk hK hP hD hS (Nat.le_of_ble_eq_true rfl) (Nat.le_of_ble_eq_true rfl) dX0_toldPlace_27 ⟨(-1), rfl, rfl⟩
    · refine lv_iload_n hx hb dX0_toldPlace_12 rfl (lv_at hl 1 rfl) ?_
      refine lv_iconst (v := 2) hx hb dX0_toldPlace_13 (by decide) ?_
      refine lv_icmp_ge (tgt := 26) hx hb dX0_toldPlace_14 (by decide) (fun c_3 => ?_) (fun c_3 => ?_)
      · refine lv_iconst (v := (-1)) hx hb dX0_toldPlace_26 (by decide) ?_
        exact gx_iret (w' := [(h0, .inr (0, [v0, v1, v2, v3, .int ts, .ref a5])), (a5, .inl (cI, 2, .inl tf))]) hx hb hr hlk hK hP hD hS (Nat.le_of_ble_eq_true rfl) (Nat.le_of_ble_eq_true rfl) dX0_toldPlace_27 ⟨(-1), rfl, rfl⟩
      · obtain ⟨j, hj, rfl⟩ := gy_lt2 (n := 2) (by decide) c_1 c_3
        have hl : lv_has ls 2 [(0, .ref h0), (1, .int (nI j))] := hl
        refine lv_aload_n hx hb dX0_toldPlace_17 rfl (lv_at hl 0 rfl) ?_
        refine va_get (D := D) (ci := 0) (v := .ref a5) (C := RX0) (T := TX0) (N := 6) hx hb hts (fun _ h => List.mem_cons_of_mem _ (List.mem_append_right _ h)) hown hK hP 0 rfl rfl 5 (by decide) (hts (.fieldLink RX0 26 "LitmusHall$Cure" "told" "[I") (by decide +kernel)) (fun _ h9 => h9) rfl dX0_toldPlace_18 ?_
        refine lv_iload_n hx hb dX0_toldPlace_21 rfl (lv_at hl 1 rfl) ?_
        refine gy_ild (i := j) hx hb hK hP 1 rfl (by omega) (by omega) dX0_toldPlace_22 ?_
        refine lv_goto (tgt := 27) hx hb dX0_toldPlace_23 (by decide) ?_
        exact gx_iret (w' := [(h0, .inr (0, [v0, v1, v2, v3, .int ts, .ref a5])), (a5, .inl (cI, 2, .inl tf))]) hx hb hr hlk hK hP hD hS (Nat.le_of_ble_eq_true rfl) (Nat.le_of_ble_eq_true rfl) dX0_toldPlace_27 ⟨(tf j), rfl, rfl⟩
def wsP_c_findInt : List Cond := .code yX2_intOf cX2_intOf 3 (some .int) :: ([.fieldLink RX2 11 "LitmusHall$Findings" "records" "[I"] ++ wsX20)
set_option maxHeartbeats 4000000 in
set_option maxRecDepth 100000 in
theorem c_findInt (l : Launch) (D : va_G) (cI cB cZ : ClassId) (h0 : Nat) (a4 : Nat) (v0 : Value) (v1 : Value) (v2 : Value) (v3 : Value) (rl : Nat) (rf : Nat → Int32) (n : Nat) (i : Nat) (hr0 : rl < 2 ^ 31) (hi : n * 17 + i < rl) : gMi l yX2_intOf wsP_c_findInt ({ frames := 0, cells := 0, slots := 0, locals := 0 }) D cI cB cZ [] [.ref h0, .int (nI n), .int (nI i)] [(h0, .inr (2, [v0, v1, v2, v3, .ref a4])), (a4, .inl (cI, rl, .inl rf))] (fun r9 w9 => r9 = (rf ((n * 17) + i)) ∧ w9 = [(h0, .inr (2, [v0, v1, v2, v3, .ref a4])), (a4, .inl (cI, rl, .inl rf))]) := by
  refine gMi.of (cc := cX2_intOf) (maxL := 3) (ret := (some .int)) (by decide) rfl (Nat.le_of_ble_eq_true rfl) (fun p e s m below meth c A ls hx hb hr hlk hml hts hown hin hA hP hK hD hS hN hl => ?_)
  have hown : s.vm.findClass RX2 = some m.cls := hown
  have hl : lv_has ls 3 [(0, .ref h0), (1, .int (nI n)), (2, .int (nI i))] := hl
  refine lv_aload_n hx hb dX2_intOf_0 rfl (lv_at hl 0 rfl) ?_
  refine va_get (D := D) (ci := 2) (v := .ref a4) (C := RX2) (T := TX2) (N := 5) hx hb hts (fun _ h => List.mem_cons_of_mem _ (List.mem_append_right _ h)) hown hK hP 0 rfl rfl 4 (by decide) (hts (.fieldLink RX2 11 "LitmusHall$Findings" "records" "[I") (by decide +kernel)) (fun _ h9 => h9) rfl dX2_intOf_1 ?_
  refine lv_iload_n hx hb dX2_intOf_4 rfl (lv_at hl 1 rfl) ?_
  refine lv_bipush (v := 17) hx hb dX2_intOf_5 (by decide) ?_
  refine lv_imul hx hb dX2_intOf_7 ?_
  refine gx_top (y := nI (n * 17)) (pk_mul n 17) ?_
  refine lv_iload_n hx hb dX2_intOf_8 rfl (lv_at hl 2 rfl) ?_
  refine lv_iadd hx hb dX2_intOf_9 ?_
  refine gx_top (y := nI ((n * 17) + i)) (nI_add (n * 17) i) ?_
  refine gy_ild (i := ((n * 17) + i)) hx hb hK hP 1 rfl (by omega) (by omega) dX2_intOf_10 ?_
  exact gx_iret (w' := [(h0, .inr (2, [v0, v1, v2, v3, .ref a4])), (a4, .inl (cI, rl, .inl rf))]) hx hb hr hlk hK hP hD hS (Nat.le_of_ble_eq_true rfl) (Nat.le_of_ble_eq_true rfl) dX2_intOf_11 ⟨rfl, rfl⟩
