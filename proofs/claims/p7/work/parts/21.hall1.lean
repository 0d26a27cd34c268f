theorem dX3_start_0 : decode cX3_start 0 = .ok (.aload_n 0, 1) := by decide +kernel
theorem dX3_start_1 : decode cX3_start 1 = .ok (.iconst 1, 1) := by decide +kernel
theorem dX3_start_10 : decode cX3_start 10 = .ok (.aload_n 0, 1) := by decide +kernel
theorem dX3_start_11 : decode cX3_start 11 = .ok (.iconst 0, 1) := by decide +kernel
theorem dX3_start_12 : decode cX3_start 12 = .ok (.putfield 30, 3) := by decide +kernel
theorem dX3_start_15 : decode cX3_start 15 = .ok (.aload_n 0, 1) := by decide +kernel
theorem dX3_start_16 : decode cX3_start 16 = .ok (.getfield 12, 3) := by decide +kernel
theorem dX3_start_19 : decode cX3_start 19 = .ok (.aload_n 1, 1) := by decide +kernel
theorem dX3_start_2 : decode cX3_start 2 = .ok (.putfield 22, 3) := by decide +kernel
theorem dX3_start_20 : decode cX3_start 20 = .ok (.invokevirtual 33, 3) := by decide +kernel
theorem dX3_start_23 : decode cX3_start 23 = .ok (.return_, 1) := by decide +kernel
theorem dX3_start_5 : decode cX3_start 5 = .ok (.aload_n 0, 1) := by decide +kernel
theorem dX3_start_6 : decode cX3_start 6 = .ok (.iload_n 2, 1) := by decide +kernel
theorem dX3_start_7 : decode cX3_start 7 = .ok (.putfield 26, 3) := by decide +kernel
theorem dX8_hasCore_0 : decode cX8_hasCore 0 = .ok (.aload_n 0, 1) := by decide +kernel
theorem dX8_hasCore_1 : decode cX8_hasCore 1 = .ok (.getfield 79, 3) := by decide +kernel
theorem dX8_hasCore_11 : decode cX8_hasCore 11 = .ok (.iload_n 1, 1) := by decide +kernel
theorem dX8_hasCore_12 : decode cX8_hasCore 12 = .ok (.aload_n 0, 1) := by decide +kernel
theorem dX8_hasCore_13 : decode cX8_hasCore 13 = .ok (.getfield 27, 3) := by decide +kernel
theorem dX8_hasCore_16 : decode cX8_hasCore 16 = .ok (.getfield 108, 3) := by decide +kernel
theorem dX8_hasCore_19 : decode cX8_hasCore 19 = .ok (.if_icmp .ge 7, 3) := by decide +kernel
theorem dX8_hasCore_22 : decode cX8_hasCore 22 = .ok (.iconst 1, 1) := by decide +kernel
theorem dX8_hasCore_23 : decode cX8_hasCore 23 = .ok (.goto 4, 3) := by decide +kernel
theorem dX8_hasCore_26 : decode cX8_hasCore 26 = .ok (.iconst 0, 1) := by decide +kernel
theorem dX8_hasCore_27 : decode cX8_hasCore 27 = .ok (.ireturn, 1) := by decide +kernel
theorem dX8_hasCore_4 : decode cX8_hasCore 4 = .ok (.ifCond .eq 22, 3) := by decide +kernel
theorem dX8_hasCore_7 : decode cX8_hasCore 7 = .ok (.iload_n 1, 1) := by decide +kernel
theorem dX8_hasCore_8 : decode cX8_hasCore 8 = .ok (.ifCond .lt 18, 3) := by decide +kernel
def wsP_c_hasCore : List Cond := .code yX8_hasCore cX8_hasCore 2 (some .boolean) :: ([.fieldLink RX8 79 "LitmusHall" "loaded" "Z", .fieldLink RX8 27 "LitmusHall" "program" "LLitmusHall$Program;", .fieldLink RX8 108 "LitmusHall$Program" "cores" "I"] ++ wsX80 ++ wsX40)
set_option maxHeartbeats 4000000 in
set_option maxRecDepth 100000 in
theorem c_hasCore (l : Launch) (D : va_G) (cI cB cZ : ClassId) (h0 : Nat) (p0 : Nat) (v0 : Value) (v1 : Value) (v2 : Value) (v3 : Value) (v6 : Value) (v7 : Value) (v8 : Value) (v9 : Value) (v10 : Value) (v11 : Value) (w1 : Value) (w2 : Value) (w3 : Value) (ld : Int32) (nc : Nat) (x : Int32) (hc : nc ≤ 3) : gMi l yX8_hasCore wsP_c_hasCore ({ frames := 0, cells := 0, slots := 0, locals := 0 }) D cI cB cZ [] [.ref h0, .int x] [(h0, .inr (8, [v0, v1, v2, v3, .int ld, .ref p0, v6, v7, v8, v9, v10, v11])), (p0, .inr (4, [.int (nI nc), w1, w2, w3]))] (fun r9 w9 => ∃ z : Int32, (z = 0 ∨ (z = 1 ∧ ¬ ld = 0 ∧ ∃ j, j < nc ∧ x = nI j)) ∧ r9 = z ∧ w9 = [(h0, .inr (8, [v0, v1, v2, v3, .int ld, .ref p0, v6, v7, v8, v9, v10, v11])), (p0, .inr (4, [.int (nI nc), w1, w2, w3]))]) := by
  refine gMi.of (cc := cX8_hasCore) (maxL := 2) (ret := (some .boolean)) (by decide) rfl (Nat.le_of_ble_eq_true rfl) (fun p e s m below meth c A ls hx hb hr hlk hml hts hown hin hA hP hK hD hS hN hl => ?_)
  have hown : s.vm.findClass RX8 = some m.cls := hown
  have hl : lv_has ls 2 [(0, .ref h0), (1, .int x)] := hl
  refine lv_aload_n hx hb dX8_hasCore_0 rfl (lv_at hl 0 rfl) ?_
  refine va_get (D := D) (ci := 8) (v := .int ld) (C := RX8) (T := TX8) (N := 12) hx hb hts (fun _ h => List.mem_cons_of_mem _ (List.mem_append_left _ (List.mem_append_right _ h))) hown hK hP 0 rfl rfl 4 (by decide) (hts (.fieldLink RX8 79 "LitmusHall" "loaded" "Z") (by decide +kernel)) (fun _ h9 => h9) rfl dX8_hasCore_1 ?_
  refine lv_if_eq (tgt := 26) hx hb dX8_hasCore_4 (by decide) (fun c_1 => ?_) (fun c_1 => ?_)
  · refine lv_iconst (v := 0) hx hb dX8_hasCore_26 (by decide) ?_
    exact gx_zret (w' := [(h0, .inr (8, [v0, v1, v2, v3, .int ld, .ref p0, v6, v7, v8, v9, v10, v11])), (p0, .inr (4, [.int (nI nc), w1, w2, w3]))]) hx hb hr hlk hK hP hD hS (Nat.le_of_ble_eq_true rfl) (Nat.le_of_ble_eq_true rfl) dX8_hasCore_27 rfl ⟨0, (by first | exact Or.inl rfl | exact Or.inr ⟨rfl, c_1, gy_lt2 (by omega) c_1 c_1⟩), rfl, rfl⟩
  · refine lv_iload_n hx hb dX8_hasCore_7 rfl (lv_at hl 1 rfl) ?_
    refine lv_if_lt (tgt := 26) hx hb dX8_hasCore_8 (by decide) (fun c_2 => ?_) (fun c_2 => ?_)
    · refine lv_iconst (v := 0) hx hb dX8_hasCore_26 (by decide) ?_
      exact gx_zret (w' := [(h0, .inr (8, [v0, v1, v2, v3, .int ld, .ref p0, v6, v7, v8, v9, v10, v11])), (p0, .inr (4, [.int (nI nc), w1, w2, w3]))]) hx hb hr hlk hK hP hD hS (Nat.le_of_ble_eq_true rfl) (Nat.le_of_ble_eq_true rfl) dX8_hasCore_27 rfl ⟨0, (by first | exact Or.inl rfl | exact Or.inr ⟨rfl, c_1, gy_lt2 (by omega) c_1 c_2⟩), rfl, rfl⟩
    · refine lv_iload_n hx hb dX8_hasCore_11 rfl (lv_at hl 1 rfl) ?_
      refine lv_aload_n hx hb dX8_hasCore_12 rfl (lv_at hl 0 rfl) ?_
      refine va_get (D := D) (ci := 8) (v := .ref p0) (C := RX8) (T := TX8) (N := 12) hx hb hts (fun _ h => List.mem_cons_of_mem _ (List.mem_append_left _ (List.mem_append_right _ h))) hown hK hP 0 rfl rfl 5 (by decide) (hts (.fieldLink RX8 27 "LitmusHall" "program" "LLitmusHall$Program;") (by decide +kernel)) (fun _ h9 => h9) rfl dX8_hasCore_13 ?_
      refine va_get (D := D) (ci := 4) (v := .int (nI nc)) (C := RX4) (T := TX4) (N := 4) hx hb hts (fun _ h => List.mem_cons_of_mem _ (List.mem_append_right _ h)) hown hK hP 1 rfl rfl 0 (by decide) (hts (.fieldLink RX8 108 "LitmusHall$Program" "cores" "I") (by decide +kernel)) (fun _ h9 => h9) rfl dX8_hasCore_16 ?_
      refine lv_icmp_ge (tgt := 26) hx hb dX8_hasCore_19 (by decide) (fun c_3 => ?_) (fun c_3 => ?_)
      · refine lv_iconst (v := 0) hx hb dX8_hasCore_26 (by decide) ?_
        exact gx_zret (w' := [(h0, .inr (8, [v0, v1, v2, v3, .int ld, .ref p0, v6, v7, v8, v9, v10, v11])), (p0, .inr (4, [.int (nI nc), w1, w2, w3]))]) hx hb hr hlk hK hP hD hS (Nat.le_of_ble_eq_true rfl) (Nat.le_of_ble_eq_true rfl) dX8_hasCore_27 rfl ⟨0, (by first | exact Or.inl rfl | exact Or.inr ⟨rfl, c_1, gy_lt2 (by omega) c_2 c_3⟩), rfl, rfl⟩
      · refine lv_iconst (v := 1) hx hb dX8_hasCore_22 (by decide) ?_
        refine lv_goto (tgt := 27) hx hb dX8_hasCore_23 (by decide) ?_
        exact gx_zret (w' := [(h0, .inr (8, [v0, v1, v2, v3, .int ld, .ref p0, v6, v7, v8, v9, v10, v11])), (p0, .inr (4, [.int (nI nc), w1, w2, w3]))]) hx hb hr hlk hK hP hD hS (Nat.le_of_ble_eq_true rfl) (Nat.le_of_ble_eq_true rfl) dX8_hasCore_27 rfl ⟨1, (by first | exact Or.inl rfl | exact Or.inr ⟨rfl, c_1, gy_lt2 (by omega) c_2 c_3⟩), rfl, rfl⟩