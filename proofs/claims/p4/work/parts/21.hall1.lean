theorem dX3_start_0 : decode cX3_start 0 = .ok (.aload_n 0, 1) := by decide +kernel
theorem dX3_start_1 : decode cX3_start 1 = .ok (.iconst 1, 1) := by decide +kernel
theorem dX3_start_10 : decode cX3_start 10 = .ok (.aload_n 0, 1) := by decide +kernel
theorem dX3_start_11 : decode cX3_start 11 = .ok (.iconst 0, 1) := by decide +kernel
theorem dX3_start_12 : decode cX3_start 12 = .ok (.putfield 30, 3) := by decide +kernel
theorem dX3_start_15 : decode cX3_start 15 = .ok (.aload_n 0, 1) := by decide +kernel
theorem dX3_start_16 : decode cX3_start 16 = .ok (.getfield 12, 3) := by decide +kernel
theorem dX3_start_19 : decode cX3_start 19 = .ok (.aload_n 1, 1) := by decide +kernel
theorem dX3_start_2 : decode cX3_start 2 = .ok (.putfield 22, 3) := by decide +kernel
theorem dX3_start_20 : decode cX3_start 20 = .ok (.invokevirtual 33, 3) := by decide +kernel
theorem dX3_start_23 : decode cX3_start 23 = .ok (.return_, 1) := by decide +kernel
theorem dX3_start_5 : decode cX3_start 5 = .ok (.aload_n 0, 1) := by decide +kernel
theorem dX3_start_6 : decode cX3_start 6 = .ok (.iload_n 2, 1) := by decide +kernel
theorem dX3_start_7 : decode cX3_start 7 = .ok (.putfield 26, 3) := by decide +kernel
theorem dX8_hasCore_0 : decode cX8_hasCore 0 = .ok (.aload_n 0, 1) := by decide +kernel
theorem dX8_hasCore_1 : decode cX8_hasCore 1 = .ok (.getfield 79, 3) := by decide +kernel
theorem dX8_hasCore_11 : decode cX8_hasCore 11 = .ok (.iload_n 1, 1) := by decide +kernel
theorem dX8_hasCore_12 : decode cX8_hasCore 12 = .ok (.aload_n 0, 1) := by decide +kernel
theorem dX8_hasCore_13 : decode cX8_hasCore 13 = .ok (.getfield 27, 3) := by decide +kernel
theorem dX8_hasCore_16 : decode cX8_hasCore 16 = .ok (.getfield 108, 3) := by decide +kernel
theorem dX8_hasCore_19 : decode cX8_hasCore 19 = .ok (.if_icmp .ge 7, 3) := by decide +kernel
theorem dX8_hasCore_22 : decode cX8_hasCore 22 = .ok (.iconst 1, 1) := by decide +kernel
theorem dX8_hasCore_23 : decode cX8_hasCore 23 = .ok (.goto 4, 3) := by decide +kernel
theorem dX8_hasCore_26 : decode cX8_hasCore 26 = .ok (.iconst 0, 1) := by decide +kernel
theorem dX8_hasCore_27 : decode cX8_hasCore 27 = .ok (.ireturn, 1) := by decide +kernel
theorem dX8_hasCore_4 : decode cX8_hasCore 4 = .ok (.ifCond .eq 22, 3) := by decide +kernel
theorem dX8_hasCore_7 : decode cX8_hasCore 7 = .ok (.iload_n 1, 1) := by decide +kernel
theorem dX8_hasCore_8 : decode cX8_hasCore 8 = .ok (.ifCond .lt 18, 3) := by decide +kernel
def wsP_c_hasCore : List Cond := .code yX8_hasCore cX8_hasCore 2 (some .boolean) :: ([.fieldLink RX8 79 "LitmusHall" "loaded" "Z", .fieldLink RX8 27 "LitmusHall" "program" "LLitmusHall$Program;", .fieldLink RX8 108 "LitmusHall$Program" "cores" "I"] ++ wsX80 ++ wsX40)
set_option maxHeartbeats 4000000 in
set_option maxRecDepth 100000 in
theorem c_hasCore (l : Launch) (D : va_G) (cI cB cZ : ClassId) (h0 : Nat) (p0 : Nat) (v0 : Value) (v1 : Value) (v2 : Value) (v3 : Value) (v6 : Value) (v7 : Value) (v8 : Value) (v9 : Value) (v10 : Value) (v11 : Value) (w1 : Value) (w2 : Value) (w3 : Value) (ld : Int32) (nc : Nat) (x : Int32) (hc : nc ≤ 3) : gMi l yX8_hasCore wsP_c_hasCore ({ frames := 0, cells := 0, slots := 0, locals := 0 }) D cI cB cZ [] [.ref h0, .int x] [(h0, .inr (8, [v0, v1, v2, v3, .int ld, .ref p0, v6, v7, v8, v9, v10, v11])), (p0, .inr (4, [.int (nI nc), w1, w2, w3]))] (fun r9 w9 => ∃ z : Int32, (z = 0 ∨ (z = 1 ∧ ¬ ld = 0 ∧ ∃ j, j < nc ∧ x = nI j)) ∧ r9 = z ∧ w9 = [(h0, .inr (8, [v0, v1, v2, v3, .int ld, .ref p0, v6, v7, v8, v9, v10, v11])), (p0, .inr (4, [.int (nI nc), w1, w2, w3]))]) := by
  refine gMi.of (cc := cX8_hasCore) (maxL := 2) (ret := (some .boolean)) (by decide) rfl (Nat.le_of_ble_eq_true rfl) (fun p e s m below meth c A ls hx hb hr hlk hml hts hown hin hA hP hK hD hS hN hl => ?_)
  have hown : s.vm.findClass RX8 = some m.cls := hown
  have hl : lv_has ls 2 [(0, .ref h0), (1, .int x)] := hl
  refine lv_aload_n hx hb dX8_hasCore_0 rfl (lv_at hl 0 rfl) ?_
  refine va_get (D := D) (ci := 8) (v := .int ld) (C := RX8) (T := TX8) (N := 12) hx hb hts (fun _ h => List.mem_cons_of_mem _ (List.mem_append_left _ (List.mem_append_right _ h))) hown hK hP 0 rfl rfl 4 (by decide) (hts (.fieldLink RX8 79 "LitmusHall" "loaded" "Z") (by decide +kernel)) (fun _ h9 => h9) rfl dX8_hasCore_1 ?_
  refine lv_if_eq (tgt := 26) hx hb dX8_hasCore_4 (by decide) (fun c_1 => ?_) (fun c_1 => ?_)
  · refine lv_iconst (v := 0) hx hb dX8_hasCore_26 (by decide) ?_
    exact gx_zret (w' := [(h0, .inr (8, [v0, v1, v2, v3, .int ld, .ref p0, v6, v7, v8, v9, v10, v11])), (p0, .inr (4, [.int (nI nc), w1, w2, w3]))]) hx hb hr hlk hK hP hD hS (Nat.le_of_ble_eq_true rfl) (Nat.le_of_ble_eq_true rfl) dX8_hasCore_27 rfl ⟨0, (by first | exact Or.inl rfl | exact Or.inr ⟨rfl, c_1, gy_lt2 (by omega) c_1 c_1⟩), rfl, rfl⟩
  · refine lv_iload_n hx hb dX8_hasCore_7 rfl (lv_at hl 1 rfl) ?_
    refine lv_if_lt (tgt := 26) hx hb dX8_hasCore_8 (by decide) (fun c_2 => ?_) (fun c_2 => ?_)
    · refine lv_iconst (v := 0) hx hb dX8_hasCore_26 (by decide) ?_
      exact gx_zret (w' := [(h0, .inr (8, [v0, v1, v2, v3, .int ld, .ref p0, v6, v7, v8, v9, v10, v11])), (p0, .inr (4, [.int (nI nc), w1, w2, w3]))]) hx hb hr hlk hK hP hD hS (Nat.le_of_ble_eq_true rfl) (Nat.le_of_ble_eq_true rfl) dX8_hasCore_27 rfl ⟨0, (by first | exact Or.inl rfl | exact Or.inr ⟨rfl, c_1, gy_lt2 (by omega) c_1 c_2⟩), rfl, rfl⟩
    · refine lv_iload_n hx hb dX8_hasCore_11 rfl (lv_at hl 1 rfl) ?_
      refine lv_aload_n hx hb dX8_hasCore_12 rfl (lv_at hl 0 rfl) ?_
      refine va_get (D := D) (ci := 8) (v := .ref p0) (C := RX8) (T := TX8) (N := 12) hx hb hts (fun _ h => List.mem_cons_of_mem _ (List.mem_append_left _ (List.mem_append_right _ h))) hown hK hP 0 rfl rfl 5 (by decide) (hts (.fieldLink RX8 27 "LitmusHall" "program" "LLitmusHall$Program;") (by decide +kernel)) (fun _ h9 => h9) rfl dX8_hasCore_13 ?_
      refine va_get (D := D) (ci := 4) (v := .int (nI nc)) (C := RX4) (T := TX4) (N := 4) hx hb hts (fun _ h => List.mem_cons_of_mem _ (List.mem_append_right _ h)) hown hK hP 1 rfl rfl 0 (by decide) (hts (.fieldLink RX8 108 "LitmusHall$Program" "cores" "I") (by decide +kernel)) (fun _ h9 => h9) rfl dX8_hasCore_16 ?_
      refine lv_icmp_ge (tgt := 26) hx hb dX8_hasCore_19 (by decide) (fun c_3 => ?_) (fun c_3 => ?_)
      · refine lv_iconst (v := 0) hx hb dX8_hasCore_26 (by decide) ?_
        exact gx_zret (w' := [(h0, .inr (8, [v0, v1, v2, v3, .int ld, .ref p0, v6, v7, v8, v9, v10, v11])), (p0, .inr (4, [.int (nI nc), w1, w2, w3]))]) hx hb hr hlk hK hP hD hS (Nat.le_of_ble_eq_true rfl) (Nat.le_of_ble_eq_true rfl) dX8_hasCore_27 rfl ⟨0, (by first | exact Or.inl rfl | exact Or.inr ⟨rfl, c_1, gy_lt2 (by omega) c_2 c_3⟩), rfl, rfl⟩
      · refine lv_iconst (v := 1) hx hb dX8_hasCore_22 (by decide) ?_
        refine lv_goto (tgt := 27) hx hb dX8_hasCore_23 (by decide) ?_
        exact gx_zret (w' := [(h0, .inr (8, [v0, v1, v2, v3, .int ld, .ref p0, v6, v7, v8, v9, v10, v11])), (p0, .inr (4, [.int (nI nc), w1, w2, w3]))]) hx hb hr hlk hK hP hD hS (Nat.le_of_ble_eq_true rfl) (Nat.le_of_ble_eq_true rfl) dX8_hasCore_27 rfl ⟨1, (by first | exact Or.inl rfl | exact Or.inr ⟨rfl, c_1, gy_lt2 (by omega) c_2 c_3⟩), rfl, rfl⟩
def wsP_c_mstart : List Cond := .code yX3_start cX3_start 3 none :: ([.fieldLink RX3 22 "LitmusHall$Machine" "stands" "Z", .fieldLink RX3 26 "LitmusHall$Machine" "mode" "I", .fieldLink RX3 30 "LitmusHall$Machine" "steps" "I", .fieldLink RX3 12 "LitmusHall$Machine" "state" "LLitmusHall$State;", .methodLink RX3 33 yX7_start, .instanceMethod yX7_start, .selects RX7 yX7_start yX7_start, .initialized RX7, .fieldLink RX7 11 "LitmusHall$State" "words" "[I", .methodLink RX7 21 yJ7_fill_53178, .static yJ7_fill_53178, .initialized RJ7, .code yJ7_fill_53178 cJ7_fill_53178 4 none, .fieldLink RX7 27 "LitmusHall$Program" "cells" "[I", .methodLink RX7 30 arraycopyName, .native arraycopyName, .static arraycopyName, .initialized "java/lang/System", .code yX7_start cX7_start 2 none] ++ wsX30 ++ wsX70 ++ wsX40)
set_option maxRecDepth 20000 in
theorem gP_c_mstart__c_start : GoodIn wsP_c_mstart (wsV RX3 33 RX7 yX7_start wsP_c_start) := goodIn_r _ [5, 6, 7, 8, 19, 9, 10, 11, 12, 13, 14, 15, 16, 17, 18, 25, 26, 27, 28, 29] (by decide +kernel) (by decide +kernel)
set_option maxHeartbeats 4000000 in
set_option maxRecDepth 100000 in
theorem c_mstart (l : Launch) (D : va_G) (cI cB cZ : ClassId) (h0 : Nat) (s0 : Nat) (s1 : Nat) (p0 : Nat) (b2 : Nat) (v1 : Int32) (v2 : Int32) (v3 : Int32) (v4 : Value) (w0 : Value) (w1 : Value) (w3 : Value) (f : Nat → Int32) (cf : Nat → Int32) (x : Int32)  : gMv l yX3_start wsP_c_mstart ({ frames := 2, cells := 0, slots := 0, locals := 61 }) D cI cB cZ [] [.ref h0, .ref p0, .int x] [(h0, .inr (3, [.ref s0, .int v1, .int v2, .int v3, v4])), (s0, .inr (7, [.ref s1])), (s1, .inl (cI, 34, .inl f)), (p0, .inr (4, [w0, w1, .ref b2, w3])), (b2, .inl (cI, 4, .inl cf))] (fun w9 => ∃ g : Nat → Int32, (gOkW g) ∧ (∀ j, j < 34 → 13 ≤ j → g j = 0) ∧ w9 = [(h0, .inr (3, [.ref s0, .int 1, .int 0, .int x, v4])), (s0, .inr (7, [.ref s1])), (s1, .inl (cI, 34, .inl g)), (p0, .inr (4, [w0, w1, .ref b2, w3])), (b2, .inl (cI, 4, .inl cf))]) := by
  refine gMv.of (cc := cX3_start) (maxL := 3) (ret := none) (by decide) rfl (Nat.le_of_ble_eq_true rfl) (fun p e s m below meth c A ls hx hb hr hlk hml hts hown hin hA hP hK hD hS hN hl => ?_)
  have hown : s.vm.findClass RX3 = some m.cls := hown
  have hl : lv_has ls 3 [(0, .ref h0), (1, .ref p0), (2, .int x)] := hl
  refine lv_aload_n hx hb dX3_start_0 rfl (lv_at hl 0 rfl) ?_
  refine lv_iconst (v := 1) hx hb dX3_start_1 (by decide) ?_
  refine va_put (D := D) (ci := 3) (v := .int 1) (ty := .boolean) (C := RX3) (T := TX3) (N := 5) hx hb hts (fun _ h => List.mem_cons_of_mem _ (List.mem_append_left _ (List.mem_append_left _ (List.mem_append_right _ h)))) tyX3 tyX3_ok nmX3 hown hK hP hD hS 0 rfl rfl 1 (by decide) (hts (.fieldLink RX3 22 "LitmusHall$Machine" "stands" "Z") (by decide +kernel)) (fun _ h9 => h9) rfl (by decide +kernel) rfl rfl (Nat.le_of_ble_eq_true rfl) dX3_start_2 (fun H locs hP hD hS => ?_)
  have hP : va_P D vwCl [(h0, .inr (3, [.ref s0, .int 1, .int v2, .int v3, v4])), (s0, .inr (7, [.ref s1])), (s1, .inl (cI, 34, .inl f)), (p0, .inr (4, [w0, w1, .ref b2, w3])), (b2, .inl (cI, 4, .inl cf))] H := hP
  have hD : va_D A [(h0, .inr (3, [.ref s0, .int 1, .int v2, .int v3, v4])), (s0, .inr (7, [.ref s1])), (s1, .inl (cI, 34, .inl f)), (p0, .inr (4, [w0, w1, .ref b2, w3])), (b2, .inl (cI, 4, .inl cf))] := hD
  refine lv_aload_n hx hb dX3_start_5 rfl (lv_at hl 0 rfl) ?_
  refine lv_iload_n hx hb dX3_start_6 rfl (lv_at hl 2 rfl) ?_
  refine va_put (D := D) (ci := 3) (v := .int x) (ty := .int) (C := RX3) (T := TX3) (N := 5) hx hb hts (fun _ h => List.mem_cons_of_mem _ (List.mem_append_left _ (List.mem_append_left _ (List.mem_append_right _ h)))) tyX3 tyX3_ok nmX3 hown hK hP hD hS 0 rfl rfl 3 (by decide) (hts (.fieldLink RX3 26 "LitmusHall$Machine" "mode" "I") (by decide +kernel)) (fun _ h9 => h9) rfl (by decide +kernel) rfl rfl (Nat.le_of_ble_eq_true rfl) dX3_start_7 (fun H locs hP hD hS => ?_)
  have hP : va_P D vwCl [(h0, .inr (3, [.ref s0, .int 1, .int v2, .int x, v4])), (s0, .inr (7, [.ref s1])), (s1, .inl (cI, 34, .inl f)), (p0, .inr (4, [w0, w1, .ref b2, w3])), (b2, .inl (cI, 4, .inl cf))] H := hP
  have hD : va_D A [(h0, .inr (3, [.ref s0, .int 1, .int v2, .int x, v4])), (s0, .inr (7, [.ref s1])), (s1, .inl (cI, 34, .inl f)), (p0, .inr (4, [w0, w1, .ref b2, w3])), (b2, .inl (cI, 4, .inl cf))] := hD
  refine lv_aload_n hx hb dX3_start_10 rfl (lv_at hl 0 rfl) ?_
  refine lv_iconst (v := 0) hx hb dX3_start_11 (by decide) ?_
  refine va_put (D := D) (ci := 3) (v := .int 0) (ty := .int) (C := RX3) (T := TX3) (N := 5) hx hb hts (fun _ h => List.mem_cons_of_mem _ (List.mem_append_left _ (List.mem_append_left _ (List.mem_append_right _ h)))) tyX3 tyX3_ok nmX3 hown hK hP hD hS 0 rfl rfl 2 (by decide) (hts (.fieldLink RX3 30 "LitmusHall$Machine" "steps" "I") (by decide +kernel)) (fun _ h9 => h9) rfl (by decide +kernel) rfl rfl (Nat.le_of_ble_eq_true rfl) dX3_start_12 (fun H locs hP hD hS => ?_)
  have hP : va_P D vwCl [(h0, .inr (3, [.ref s0, .int 1, .int 0, .int x, v4])), (s0, .inr (7, [.ref s1])), (s1, .inl (cI, 34, .inl f)), (p0, .inr (4, [w0, w1, .ref b2, w3])), (b2, .inl (cI, 4, .inl cf))] H := hP
  have hD : va_D A [(h0, .inr (3, [.ref s0, .int 1, .int 0, .int x, v4])), (s0, .inr (7, [.ref s1])), (s1, .inl (cI, 34, .inl f)), (p0, .inr (4, [w0, w1, .ref b2, w3])), (b2, .inl (cI, 4, .inl cf))] := hD
  refine lv_aload_n hx hb dX3_start_15 rfl (lv_at hl 0 rfl) ?_
  refine va_get (D := D) (ci := 3) (v := .ref s0) (C := RX3) (T := TX3) (N := 5) hx hb hts (fun _ h => List.mem_cons_of_mem _ (List.mem_append_left _ (List.mem_append_left _ (List.mem_append_right _ h)))) hown hK hP 0 rfl rfl 0 (by decide) (hts (.fieldLink RX3 12 "LitmusHall$Machine" "state" "LLitmusHall$State;") (by decide +kernel)) (fun _ h9 => h9) rfl dX3_start_16 ?_
  refine lv_aload_n hx hb dX3_start_19 rfl (lv_at hl 1 rfl) ?_
  refine gx_gov (wc := [(s0, .inr (7, [.ref s1])), (s1, .inl (cI, 34, .inl f)), (p0, .inr (4, [w0, w1, .ref b2, w3])), (b2, .inl (cI, 4, .inl cf))]) (wr := [(h0, .inr (3, [.ref s0, .int 1, .int 0, .int x, v4]))]) (va_runV (As := [.ref p0]) (rest := []) ⟨hx, hb, hml, hown, hts⟩ (c_start l D cI cB cZ s0 s1 f p0 b2 (w0) (w1) (w3) cf _) (cwV 1 hts gP_c_mstart__c_start rfl rfl rfl (by decide +kernel) ⟨Nat.le_of_ble_eq_true rfl, Nat.le_of_ble_eq_true rfl⟩) (gx_preV (ci := 7) (q0 := 0) hK gN.nil hP hD [1, 2, 3, 4] rfl rfl rfl rfl) rfl rfl hl.1 rfl (lv_room (Nat.le_of_ble_eq_true rfl)) dX3_start_20 ⟨Nat.le_of_ble_eq_true rfl, Nat.le_of_ble_eq_true rfl⟩) hP hD hS hA [1, 2, 3, 4] [0] rfl rfl rfl (by decide) (fun w1 H locs hp hP hD hS => ?_)
  obtain ⟨e_1, hq_2, hq_3, rfl⟩ := hp
  have hq_2 : gOkW e_1 := hq_2
  have hq_3 : ∀ j, j < 34 → 13 ≤ j → e_1 j = 0 := hq_3
  have hP : va_P D vwCl [(h0, .inr (3, [.ref s0, .int 1, .int 0, .int x, v4])), (s0, .inr (7, [.ref s1])), (s1, .inl (cI, 34, .inl e_1)), (p0, .inr (4, [w0, w1, .ref b2, w3])), (b2, .inl (cI, 4, .inl cf))] H := hP
  have hD : va_D A [(h0, .inr (3, [.ref s0, .int 1, .int 0, .int x, v4])), (s0, .inr (7, [.ref s1])), (s1, .inl (cI, 34, .inl e_1)), (p0, .inr (4, [w0, w1, .ref b2, w3])), (b2, .inl (cI, 4, .inl cf))] := hD
  exact gx_vret (w' := [(h0, .inr (3, [.ref s0, .int 1, .int 0, .int x, v4])), (s0, .inr (7, [.ref s1])), (s1, .inl (cI, 34, .inl e_1)), (p0, .inr (4, [w0, w1, .ref b2, w3])), (b2, .inl (cI, 4, .inl cf))]) hx hb hr hlk hK hP hD hS (Nat.le_of_ble_eq_true rfl) (Nat.le_of_ble_eq_true rfl) dX3_start_23 ⟨e_1, hq_2, hq_3, rfl⟩
