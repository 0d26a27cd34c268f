theorem dX8_ins_0 : decode cX8_ins 0 = .ok (.aload_n 0, 1) := by decide +kernel
theorem dX8_ins_1 : decode cX8_ins 1 = .ok (.iload_n 1, 1) := by decide +kernel
theorem dX8_ins_12 : decode cX8_ins 12 = .ok (.iload_n 2, 1) := by decide +kernel
theorem dX8_ins_13 : decode cX8_ins 13 = .ok (.aload_n 0, 1) := by decide +kernel
theorem dX8_ins_14 : decode cX8_ins 14 = .ok (.getfield 27, 3) := by decide +kernel
theorem dX8_ins_17 : decode cX8_ins 17 = .ok (.getfield 100, 3) := by decide +kernel
theorem dX8_ins_2 : decode cX8_ins 2 = .ok (.invokevirtual 96, 3) := by decide +kernel
theorem dX8_ins_20 : decode cX8_ins 20 = .ok (.iload_n 1, 1) := by decide +kernel
theorem dX8_ins_21 : decode cX8_ins 21 = .ok (.iaload, 1) := by decide +kernel
theorem dX8_ins_22 : decode cX8_ins 22 = .ok (.if_icmp .ge 13, 3) := by decide +kernel
theorem dX8_ins_25 : decode cX8_ins 25 = .ok (.iload_n 3, 1) := by decide +kernel
theorem dX8_ins_26 : decode cX8_ins 26 = .ok (.ifCond .lt 9, 3) := by decide +kernel
theorem dX8_ins_29 : decode cX8_ins 29 = .ok (.iload_n 3, 1) := by decide +kernel
theorem dX8_ins_30 : decode cX8_ins 30 = .ok (.bipush 8, 2) := by decide +kernel
theorem dX8_ins_32 : decode cX8_ins 32 = .ok (.if_icmp .lt 5, 3) := by decide +kernel
theorem dX8_ins_35 : decode cX8_ins 35 = .ok (.iconst (-1), 1) := by decide +kernel
theorem dX8_ins_36 : decode cX8_ins 36 = .ok (.ireturn, 1) := by decide +kernel
theorem dX8_ins_37 : decode cX8_ins 37 = .ok (.aload_n 0, 1) := by decide +kernel
theorem dX8_ins_38 : decode cX8_ins 38 = .ok (.getfield 27, 3) := by decide +kernel
theorem dX8_ins_41 : decode cX8_ins 41 = .ok (.iload_n 1, 1) := by decide +kernel
theorem dX8_ins_42 : decode cX8_ins 42 = .ok (.iload_n 2, 1) := by decide +kernel
theorem dX8_ins_43 : decode cX8_ins 43 = .ok (.iload_n 3, 1) := by decide +kernel
theorem dX8_ins_44 : decode cX8_ins 44 = .ok (.invokevirtual 104, 3) := by decide +kernel
theorem dX8_ins_47 : decode cX8_ins 47 = .ok (.ireturn, 1) := by decide +kernel
theorem dX8_ins_5 : decode cX8_ins 5 = .ok (.ifCond .eq 30, 3) := by decide +kernel
theorem dX8_ins_8 : decode cX8_ins 8 = .ok (.iload_n 2, 1) := by decide +kernel
theorem dX8_ins_9 : decode cX8_ins 9 = .ok (.ifCond .lt 26, 3) := by decide +kernel
theorem dX8_memory_0 : decode cX8_memory 0 = .ok (.aload_n 0, 1) := by decide +kernel
theorem dX8_memory_1 : decode cX8_memory 1 = .ok (.getfield 34, 3) := by decide +kernel
theorem dX8_memory_10 : decode cX8_memory 10 = .ok (.iload_n 1, 1) := by decide +kernel
theorem dX8_memory_11 : decode cX8_memory 11 = .ok (.ifCond .lt 8, 3) := by decide +kernel
theorem dX8_memory_14 : decode cX8_memory 14 = .ok (.iload_n 1, 1) := by decide +kernel
theorem dX8_memory_15 : decode cX8_memory 15 = .ok (.iconst 4, 1) := by decide +kernel
theorem dX8_memory_16 : decode cX8_memory 16 = .ok (.if_icmp .lt 5, 3) := by decide +kernel
theorem dX8_memory_19 : decode cX8_memory 19 = .ok (.iconst 0, 1) := by decide +kernel
theorem dX8_memory_20 : decode cX8_memory 20 = .ok (.ireturn, 1) := by decide +kernel
theorem dX8_memory_21 : decode cX8_memory 21 = .ok (.aload_n 0, 1) := by decide +kernel
theorem dX8_memory_22 : decode cX8_memory 22 = .ok (.getfield 34, 3) := by decide +kernel
theorem dX8_memory_25 : decode cX8_memory 25 = .ok (.getfield 126, 3) := by decide +kernel
theorem dX8_memory_28 : decode cX8_memory 28 = .ok (.getfield 130, 3) := by decide +kernel
theorem dX8_memory_31 : decode cX8_memory 31 = .ok (.bipush 9, 2) := by decide +kernel
theorem dX8_memory_33 : decode cX8_memory 33 = .ok (.iload_n 1, 1) := by decide +kernel
theorem dX8_memory_34 : decode cX8_memory 34 = .ok (.iadd, 1) := by decide +kernel
theorem dX8_memory_35 : decode cX8_memory 35 = .ok (.iaload, 1) := by decide +kernel
theorem dX8_memory_36 : decode cX8_memory 36 = .ok (.ireturn, 1) := by decide +kernel
theorem dX8_memory_4 : decode cX8_memory 4 = .ok (.getfield 86, 3) := by decide +kernel
theorem dX8_memory_7 : decode cX8_memory 7 = .ok (.ifCond .eq 12, 3) := by decide +kernel
theorem dX8_next_0 : decode cX8_next 0 = .ok (.aload_n 0, 1) := by decide +kernel
theorem dX8_next_1 : decode cX8_next 1 = .ok (.getfield 34, 3) := by decide +kernel
theorem dX8_next_10 : decode cX8_next 10 = .ok (.aload_n 0, 1) := by decide +kernel
theorem dX8_next_11 : decode cX8_next 11 = .ok (.iload_n 1, 1) := by decide +kernel
theorem dX8_next_12 : decode cX8_next 12 = .ok (.invokevirtual 96, 3) := by decide +kernel
theorem dX8_next_15 : decode cX8_next 15 = .ok (.ifCond .eq 17, 3) := by decide +kernel
theorem dX8_next_18 : decode cX8_next 18 = .ok (.aload_n 0, 1) := by decide +kernel
theorem dX8_next_19 : decode cX8_next 19 = .ok (.getfield 34, 3) := by decide +kernel
theorem dX8_next_22 : decode cX8_next 22 = .ok (.getfield 126, 3) := by decide +kernel
theorem dX8_next_25 : decode cX8_next 25 = .ok (.iload_n 1, 1) := by decide +kernel
theorem dX8_next_26 : decode cX8_next 26 = .ok (.invokevirtual 135, 3) := by decide +kernel
theorem dX8_next_29 : decode cX8_next 29 = .ok (.goto 4, 3) := by decide +kernel
theorem dX8_next_32 : decode cX8_next 32 = .ok (.iconst (-1), 1) := by decide +kernel
theorem dX8_next_33 : decode cX8_next 33 = .ok (.ireturn, 1) := by decide +kernel
theorem dX8_next_4 : decode cX8_next 4 = .ok (.getfield 86, 3) := by decide +kernel
theorem dX8_next_7 : decode cX8_next 7 = .ok (.ifCond .eq 25, 3) := by decide +kernel
theorem dX8_place_0 : decode cX8_place 0 = .ok (.aload_n 0, 1) := by decide +kernel
theorem dX8_place_1 : decode cX8_place 1 = .ok (.getfield 20, 3) := by decide +kernel
theorem dX8_place_4 : decode cX8_place 4 = .ok (.ireturn, 1) := by decide +kernel
theorem dX8_register_0 : decode cX8_register 0 = .ok (.aload_n 0, 1) := by decide +kernel
theorem dX8_register_1 : decode cX8_register 1 = .ok (.getfield 34, 3) := by decide +kernel
theorem dX8_register_10 : decode cX8_register 10 = .ok (.aload_n 0, 1) := by decide +kernel
theorem dX8_register_11 : decode cX8_register 11 = .ok (.iload_n 1, 1) := by decide +kernel
theorem dX8_register_12 : decode cX8_register 12 = .ok (.invokevirtual 96, 3) := by decide +kernel
theorem dX8_register_15 : decode cX8_register 15 = .ok (.ifCond .eq 12, 3) := by decide +kernel
theorem dX8_register_18 : decode cX8_register 18 = .ok (.iload_n 2, 1) := by decide +kernel
theorem dX8_register_19 : decode cX8_register 19 = .ok (.ifCond .lt 8, 3) := by decide +kernel
theorem dX8_register_22 : decode cX8_register 22 = .ok (.iload_n 2, 1) := by decide +kernel
theorem dX8_register_23 : decode cX8_register 23 = .ok (.iconst 3, 1) := by decide +kernel
theorem dX8_register_24 : decode cX8_register 24 = .ok (.if_icmp .lt 5, 3) := by decide +kernel
theorem dX8_register_27 : decode cX8_register 27 = .ok (.iconst 0, 1) := by decide +kernel
theorem dX8_register_28 : decode cX8_register 28 = .ok (.ireturn, 1) := by decide +kernel
theorem dX8_register_29 : decode cX8_register 29 = .ok (.aload_n 0, 1) := by decide +kernel
theorem dX8_register_30 : decode cX8_register 30 = .ok (.getfield 34, 3) := by decide +kernel
theorem dX8_register_33 : decode cX8_register 33 = .ok (.getfield 126, 3) := by decide +kernel
theorem dX8_register_36 : decode cX8_register 36 = .ok (.getfield 130, 3) := by decide +kernel
theorem dX8_register_39 : decode cX8_register 39 = .ok (.iload_n 1, 1) := by decide +kernel
theorem dX8_register_4 : decode cX8_register 4 = .ok (.getfield 86, 3) := by decide +kernel
theorem dX8_register_40 : decode cX8_register 40 = .ok (.iconst 3, 1) := by decide +kernel
theorem dX8_register_41 : decode cX8_register 41 = .ok (.imul, 1) := by decide +kernel
theorem dX8_register_42 : decode cX8_register 42 = .ok (.iload_n 2, 1) := by decide +kernel
theorem dX8_register_43 : decode cX8_register 43 = .ok (.iadd, 1) := by decide +kernel
theorem dX8_register_44 : decode cX8_register 44 = .ok (.iaload, 1) := by decide +kernel
theorem dX8_register_45 : decode cX8_register 45 = .ok (.ireturn, 1) := by decide +kernel
theorem dX8_register_7 : decode cX8_register 7 = .ok (.ifCond .eq 20, 3) := by decide +kernel
theorem gW_c_hasCore : wsP_c_hasCore.all goodWord = true := by decide +kernel
def wsP_c_ins8 : List Cond := .code yX8_ins cX8_ins 4 (some .int) :: (([.methodLink RX8 96 yX8_hasCore, .instanceMethod yX8_hasCore, .selects RX8 yX8_hasCore yX8_hasCore, .initialized RX8, .fieldLink RX8 27 "LitmusHall" "program" "LLitmusHall$Program;", .fieldLink RX8 100 "LitmusHall$Program" "lengths" "[I", .methodLink RX8 104 yX4_part, .instanceMethod yX4_part, .selects RX4 yX4_part yX4_part, .initialized RX4] ++ wsX80 ++ wsX40) ++ (wsP_c_hasCore ++ (wsP_c_part ++ [])))
set_option maxRecDepth 20000 in
theorem gP_c_ins8__c_hasCore : GoodIn wsP_c_ins8 (wsV RX8 96 RX8 yX8_hasCore wsP_c_hasCore) := gw_in (pre := [.methodLink RX8 96 yX8_hasCore, .instanceMethod yX8_hasCore, .selects RX8 yX8_hasCore yX8_hasCore, .initialized RX8]) (by decide +kernel) (fun _ h => List.mem_cons_of_mem _ (List.mem_append_right _ (List.mem_append_left _ h))) gW_c_hasCore
set_option maxRecDepth 20000 in
theorem gP_c_ins8__c_part : GoodIn wsP_c_ins8 (wsV RX8 104 RX4 yX4_part wsP_c_part) := gw_in (pre := [.methodLink RX8 104 yX4_part, .instanceMethod yX4_part, .selects RX4 yX4_part yX4_part, .initialized RX4]) (by decide +kernel) (fun _ h => List.mem_cons_of_mem _ (List.mem_append_right _ (List.mem_append_right _ (List.mem_append_left _ h)))) gW_c_part
set_option maxHeartbeats 4000000 in
set_option maxRecDepth 100000 in
theorem c_ins8 (l : Launch) (D : va_G) (cI cB cZ : ClassId) (h0 : Nat) (ld : Int32) (v0 : Value) (v1 : Value) (v2 : Value) (v3 : Value) (v6 : Value) (v7 : Value) (v8 : Value) (v9 : Value) (v10 : Value) (v11 : Value) (p0 : Nat) (b1 : Nat) (b2 : Nat) (b3 : Nat) (nc : Nat) (L : Nat → Nat) (cf : Nat → Int32) (pf : Nat → Int32) (k : Int32) (i : Int32) (x : Int32) (hc : nc ≤ 3) (hL : ∀ k, k < 3 → L k ≤ 8) : gMi l yX8_ins wsP_c_ins8 ({ frames := 2, cells := 0, slots := 0, locals := 44 }) D cI cB cZ [] [.ref h0, .int k, .int i, .int x] [(h0, .inr (8, [v0, v1, v2, v3, .int ld, .ref p0, v6, v7, v8, v9, v10, v11])), (p0, .inr (4, [.int (nI nc), .ref b1, .ref b2, .ref b3])), (b1, .inl (cI, 3, .inl (fun j => nI (L j)))), (b2, .inl (cI, 4, .inl cf)), (b3, .inl (cI, 192, .inl pf))] (fun r9 w9 => ∃ z : Int32, r9 = z ∧ w9 = [(h0, .inr (8, [v0, v1, v2, v3, .int ld, .ref p0, v6, v7, v8, v9, v10, v11])), (p0, .inr (4, [.int (nI nc), .ref b1, .ref b2, .ref b3])), (b1, .inl (cI, 3, .inl (fun j => nI (L j)))), (b2, .inl (cI, 4, .inl cf)), (b3, .inl (cI, 192, .inl pf))]) := by
  refine gMi.of (cc := cX8_ins) (maxL := 4) (ret := (some .int)) (by decide) rfl (Nat.le_of_ble_eq_true rfl) (fun p e s m below meth c A ls hx hb hr hlk hml hts hown hin hA hP hK hD hS hN hl => ?_)
  have hown : s.vm.findClass RX8 = some m.cls := hown
  have hl : lv_has ls 4 [(0, .ref h0), (1, .int k), (2, .int i), (3, .int x)] := hl
  refine lv_aload_n hx hb dX8_ins_0 rfl (lv_at hl 0 rfl) ?_
  refine lv_iload_n hx hb dX8_ins_1 rfl (lv_at hl 1 rfl) ?_
  refine gx_goi (wc := [(h0, .inr (8, [v0, v1, v2, v3, .int ld, .ref p0, v6, v7, v8, v9, v10, v11])), (p0, .inr (4, [.int (nI nc), .ref b1, .ref b2, .ref b3]))]) (wr := [(b1, .inl (cI, 3, .inl (fun j => nI (L j)))), (b2, .inl (cI, 4, .inl cf)), (b3, .inl (cI, 192, .inl pf))]) (va_runV (As := [.int k]) (rest := []) ⟨hx, hb, hml, hown, hts⟩ (c_hasCore l D cI cB cZ h0 p0 (v0) (v1) (v2) (v3) (v6) (v7) (v8) (v9) (v10) (v11) (.ref b1) (.ref b2) (.ref b3) ld nc k (by omega) _) (cwV 1 hts gP_c_ins8__c_hasCore rfl rfl rfl (by decide +kernel) ⟨Nat.le_of_ble_eq_true rfl, Nat.le_of_ble_eq_true rfl⟩) (gx_preV (ci := 8) (q0 := 0) hK gN.nil hP hD [0, 1] rfl rfl rfl rfl) rfl rfl hl.1 rfl (lv_room (Nat.le_of_ble_eq_true rfl)) dX8_ins_2 ⟨Nat.le_of_ble_eq_true rfl, Nat.le_of_ble_eq_true rfl⟩) hP hD hS hA [0, 1] [2, 3, 4] rfl rfl rfl (by decide) (fun r1 w1 H locs hp hP hD hS => ?_)
  obtain ⟨e_1, hq_2, h9, rfl⟩ := hp
  have h9 := h9.symm
  subst h9
  have hq_2 : e_1 = 0 ∨ (e_1 = 1 ∧ ¬ ld = 0 ∧ ∃ j, j < nc ∧ k = nI j) := hq_2
  have hP : va_P D vwCl [(b1, .inl (cI, 3, .inl (fun j => nI (L j)))), (b2, .inl (cI, 4, .inl cf)), (b3, .inl (cI, 192, .inl pf)), (h0, .inr (8, [v0, v1, v2, v3, .int ld, .ref p0, v6, v7, v8, v9, v10, v11])), (p0, .inr (4, [.int (nI nc), .ref b1, .ref b2, .ref b3]))] H := hP
  have hD : va_D A [(b1, .inl (cI, 3, .inl (fun j => nI (L j)))), (b2, .inl (cI, 4, .inl cf)), (b3, .inl (cI, 192, .inl pf)), (h0, .inr (8, [v0, v1, v2, v3, .int ld, .ref p0, v6, v7, v8, v9, v10, v11])), (p0, .inr (4, [.int (nI nc), .ref b1, .ref b2, .ref b3]))] := hD
  refine lv_if_eq (tgt := 35) hx hb dX8_ins_5 (by decide) (fun c_3 => ?_) (fun c_3 => ?_)
  · refine lv_iconst (v := (-1)) hx hb dX8_ins_35 (by decide) ?_
    have hP := hP.sub (ws' := [(h0, .inr (8, [v0, v1, v2, v3, .int ld, .ref p0, v6, v7, v8, v9, v10, v11])), (p0, .inr (4, [.int (nI nc), .ref b1, .ref b2, .ref b3])), (b1, .inl (cI, 3, .inl (fun j => nI (L j)))), (b2, .inl (cI, 4, .inl cf)), (b3, .inl (cI, 192, .inl pf))]) [3, 4, 0, 1, 2] rfl
    have hD := hD.sub (ws' := [(h0, .inr (8, [v0, v1, v2, v3, .int ld, .ref p0, v6, v7, v8, v9, v10, v11])), (p0, .inr (4, [.int (nI nc), .ref b1, .ref b2, .ref b3])), (b1, .inl (cI, 3, .inl (fun j => nI (L j)))), (b2, .inl (cI, 4, .inl cf)), (b3, .inl (cI, 192, .inl pf))]) [3, 4, 0, 1, 2] (by decide) rfl
    exact gx_iret (w' := [(h0, .inr (8, [v0, v1, v2, v3, .int ld, .ref p0, v6, v7, v8, v9, v10, v11])), (p0, .inr (4, [.int (nI nc), .ref b1, .ref b2, .ref b3])), (b1, .inl (cI, 3, .inl (fun j => nI (L j)))), (b2, .inl (cI, 4, .inl cf)), (b3, .inl (cI, 192, .inl pf))]) hx hb hr hlk hK hP hD hS (Nat.le_of_ble_eq_true rfl) (Nat.le_of_ble_eq_true rfl) dX8_ins_36 ⟨(-1), rfl, rfl⟩
  · obtain ⟨jk, hjk, rfl⟩ := ((hq_2).resolve_left c_3).2.2
    have hl : lv_has ls 4 [(0, .ref h0), (1, .int (nI jk)), (2, .int i), (3, .int x)] := hl
    refine lv_iload_n hx hb dX8_ins_8 rfl (lv_at hl 2 rfl) ?_
    refine lv_if_lt (tgt := 35) hx hb dX8_ins_9 (by decide) (fun c_4 => ?_) (fun c_4 => ?_)
    · refine lv_iconst (v := (-1)) hx hb dX8_ins_35 (by decide) ?_
      have hP := hP.sub (ws' := [(h0, .inr (8, [v0, v1, v2, v3, .int ld, .ref p0, v6, v7, v8, v9, v10, v11])), (p0, .inr (4, [.int (nI nc), .ref b1, .ref b2, .ref b3])), (b1, .inl (cI, 3, .inl (fun j => nI (L j)))), (b2, .inl (cI, 4, .inl cf)), (b3, .inl (cI, 192, .inl pf))]) [3, 4, 0, 1, 2] rfl
      have hD := hD.sub (ws' := [(h0, .inr (8, [v0, v1, v2, v3, .int ld, .ref p0, v6, v7, v8, v9, v10, v11])), (p0, .inr (4, [.int (nI nc), .ref b1, .ref b2, .ref b3])), (b1, .inl (cI, 3, .inl (fun j => nI (L j)))), (b2, .inl (cI, 4, .inl cf)), (b3, .inl (cI, 192, .inl pf))]) [3, 4, 0, 1, 2] (by decide) rfl
      exact gx_iret (w' := [(h0, .inr (8, [v0, v1, v2, v3, .int ld, .ref p0, v6, v7, v8, v9, v10, v11])), (p0, .inr (4, [.int (nI nc), .ref b1, .ref b2, .ref b3])), (b1, .inl (cI, 3, .inl (fun j => nI (L j)))), (b2, .inl (cI, 4, .inl cf)), (b3, .inl (cI, 192, .inl pf))]) hx hb hr hlk hK hP hD hS (Nat.le_of_ble_eq_true rfl) (Nat.le_of_ble_eq_true rfl) dX8_ins_36 ⟨(-1), rfl, rfl⟩
    · refine lv_iload_n hx hb dX8_ins_12 rfl (lv_at hl 2 rfl) ?_
      refine lv_aload_n hx hb dX8_ins_13 rfl (lv_at hl 0 rfl) ?_
      refine va_get (D := D) (ci := 8) (v := .ref p0) (C := RX8) (T := TX8) (N := 12) hx hb hts (fun _ h => List.mem_cons_of_mem _ (List.mem_append_left _ (List.mem_append_left _ (List.mem_append_right _ h)))) hown hK hP 3 rfl rfl 5 (by decide) (hts (.fieldLink RX8 27 "LitmusHall" "program" "LLitmusHall$Program;") (by decide +kernel)) (fun _ h9 => h9) rfl dX8_ins_14 ?_
      refine va_get (D := D) (ci := 4) (v := .ref b1) (C := RX4) (T := TX4) (N := 4) hx hb hts (fun _ h => List.mem_cons_of_mem _ (List.mem_append_left _ (List.mem_append_right _ h))) hown hK hP 4 rfl rfl 1 (by decide) (hts (.fieldLink RX8 100 "LitmusHall$Program" "lengths" "[I") (by decide +kernel)) (fun _ h9 => h9) rfl dX8_ins_17 ?_
      refine lv_iload_n hx hb dX8_ins_20 rfl (lv_at hl 1 rfl) ?_
      refine gy_ild (i := jk) hx hb hK hP 0 rfl (by omega) (by omega) dX8_ins_21 ?_
      refine gx_top (y := nI (L jk)) rfl ?_
      have hL0 := hL jk (by omega)
      refine lv_icmp_ge (tgt := 35) hx hb dX8_ins_22 (by decide) (fun c_5 => ?_) (fun c_5 => ?_)
      · refine lv_iconst (v := (-1)) hx hb dX8_ins_35 (by decide) ?_
        have hP := hP.sub (ws' := [(h0, .inr (8, [v0, v1, v2, v3, .int ld, .ref p0, v6, v7, v8, v9, v10, v11])), (p0, .inr (4, [.int (nI nc), .ref b1, .ref b2, .ref b3])), (b1, .inl (cI, 3, .inl (fun j => nI (L j)))), (b2, .inl (cI, 4, .inl cf)), (b3, .inl (cI, 192, .inl pf))]) [3, 4, 0, 1, 2] rfl
        have hD := hD.sub (ws' := [(h0, .inr (8, [v0, v1, v2, v3, .int ld, .ref p0, v6, v7, v8, v9, v10, v11])), (p0, .inr (4, [.int (nI nc), .ref b1, .ref b2, .ref b3])), (b1, .inl (cI, 3, .inl (fun j => nI (L j)))), (b2, .inl (cI, 4, .inl cf)), (b3, .inl (cI, 192, .inl pf))]) [3, 4, 0, 1, 2] (by decide) rfl
        exact gx_iret (w' := [(h0, .inr (8, [v0, v1, v2, v3, .int ld, .ref p0, v6, v7, v8, v9, v10, v11])), (p0, .inr (4, [.int (nI nc), .ref b1, .ref b2, .ref b3])), (b1, .inl (cI, 3, .inl (fun j => nI (L j)))), (b2, .inl (cI, 4, .inl cf)), (b3, .inl (cI, 192, .inl pf))]) hx hb hr hlk hK hP hD hS (Nat.le_of_ble_eq_true rfl) (Nat.le_of_ble_eq_true rfl) dX8_ins_36 ⟨(-1), rfl, rfl⟩
      · obtain ⟨ji, hji, rfl⟩ := gy_lt2 (n := L jk) (by omega) c_4 c_5
        have hl : lv_has ls 4 [(0, .ref h0), (1, .int (nI jk)), (2, .int (nI ji)), (3, .int x)] := hl
        refine lv_iload_n hx hb dX8_ins_25 rfl (lv_at hl 3 rfl) ?_
        refine lv_if_lt (tgt := 35) hx hb dX8_ins_26 (by decide) (fun c_6 => ?_) (fun c_6 => ?_)
        · refine lv_iconst (v := (-1)) hx hb dX8_ins_35 (by decide) ?_
          have hP := hP.sub (ws' := [(h0, .inr (8, [v0, v1, v2, v3, .int ld, .ref p0, v6, v7, v8, v9, v10, v11])), (p0, .inr (4, [.int (nI nc), .ref b1, .ref b2, .ref b3])), (b1, .inl (cI, 3, .inl (fun j => nI (L j)))), (b2, .inl (cI, 4, .inl cf)), (b3, .inl (cI, 192, .inl pf))]) [3, 4, 0, 1, 2] rfl
          have hD := hD.sub (ws' := [(h0, .inr (8, [v0, v1, v2, v3, .int ld, .ref p0, v6, v7, v8, v9, v10, v11])), (p0, .inr (4, [.int (nI nc), .ref b1, .ref b2, .ref b3])), (b1, .inl (cI, 3, .inl (fun j => nI (L j)))), (b2, .inl (cI, 4, .inl cf)), (b3, .inl (cI, 192, .inl pf))]) [3, 4, 0, 1, 2] (by decide) rfl
          exact gx_iret (w' := [(h0, .inr (8, [v0, v1, v2, v3, .int ld, .ref p0, v6, v7, v8, v9, v10, v11])), (p0, .inr (4, [.int (nI nc), .ref b1, .ref b2, .ref b3])), (b1, .inl (cI, 3, .inl (fun j => nI (L j)))), (b2, .inl (cI, 4, .inl cf)), (b3, .inl (cI, 192, .inl pf))]) hx hb hr hlk hK hP hD hS (Nat.le_of_ble_eq_true rfl) (Nat.le_of_ble_eq_true rfl) dX8_ins_36 ⟨(-1), rfl, rfl⟩
        · refine lv_iload_n hx hb dX8_ins_29 rfl (lv_at hl 3 rfl) ?_
          refine lv_bipush (v := 8) hx hb dX8_ins_30 (by decide) ?_
          refine lv_icmp_lt (tgt := 37) hx hb dX8_ins_32 (by decide) (fun c_7 => ?_) (fun c_7 => ?_)
          · obtain ⟨jw, hjw, rfl⟩ := gy_inc (c := 8) (by decide) c_6 c_7
            have hl : lv_has ls 4 [(0, .ref h0), (1, .int (nI jk)), (2, .int (nI ji)), (3, .int (nI jw))] := hl
            refine lv_aload_n hx hb dX8_ins_37 rfl (lv_at hl 0 rfl) ?_
            refine va_get (D := D) (ci := 8) (v := .ref p0) (C := RX8) (T := TX8) (N := 12) hx hb hts (fun _ h => List.mem_cons_of_mem _ (List.mem_append_left _ (List.mem_append_left _ (List.mem_append_right _ h)))) hown hK hP 3 rfl rfl 5 (by decide) (hts (.fieldLink RX8 27 "LitmusHall" "program" "LLitmusHall$Program;") (by decide +kernel)) (fun _ h9 => h9) rfl dX8_ins_38 ?_
            refine lv_iload_n hx hb dX8_ins_41 rfl (lv_at hl 1 rfl) ?_
            refine lv_iload_n hx hb dX8_ins_42 rfl (lv_at hl 2 rfl) ?_
            refine lv_iload_n hx hb dX8_ins_43 rfl (lv_at hl 3 rfl) ?_
            refine gx_goi (wc := [(p0, .inr (4, [.int (nI nc), .ref b1, .ref b2, .ref b3])), (b3, .inl (cI, 192, .inl pf))]) (wr := [(b1, .inl (cI, 3, .inl (fun j => nI (L j)))), (b2, .inl (cI, 4, .inl cf)), (h0, .inr (8, [v0, v1, v2, v3, .int ld, .ref p0, v6, v7, v8, v9, v10, v11]))]) (va_runV (As := [.int (nI jk), .int (nI ji), .int (nI jw)]) (rest := []) ⟨hx, hb, hml, hown, hts⟩ (c_part l D cI cB cZ p0 b3 (.int (nI nc)) (.ref b1) (.ref b2) pf jk ji jw (by omega) (by omega) (by omega) _) (cwV 3 hts gP_c_ins8__c_part rfl rfl rfl (by decide +kernel) ⟨Nat.le_of_ble_eq_true rfl, Nat.le_of_ble_eq_true rfl⟩) (gx_preV (ci := 4) (q0 := 0) hK gN.nil hP hD [4, 2] rfl rfl rfl rfl) rfl rfl hl.1 rfl (lv_room (Nat.le_of_ble_eq_true rfl)) dX8_ins_44 ⟨Nat.le_of_ble_eq_true rfl, Nat.le_of_ble_eq_true rfl⟩) hP hD hS hA [4, 2] [0, 1, 3] rfl rfl rfl (by decide) (fun r1 w1 H locs hp hP hD hS => ?_)
            obtain ⟨h9, rfl⟩ := hp
            have h9 := h9.symm
            subst h9
            have hP : va_P D vwCl [(b1, .inl (cI, 3, .inl (fun j => nI (L j)))), (b2, .inl (cI, 4, .inl cf)), (h0, .inr (8, [v0, v1, v2, v3, .int ld, .ref p0, v6, v7, v8, v9, v10, v11])), (p0, .inr (4, [.int (nI nc), .ref b1, .ref b2, .ref b3])), (b3, .inl (cI, 192, .inl pf))] H := hP
            have hD : va_D A [(b1, .inl (cI, 3, .inl (fun j => nI (L j)))), (b2, .inl (cI, 4, .inl cf)), (h0, .inr (8, [v0, v1, v2, v3, .int ld, .ref p0, v6, v7, v8, v9, v10, v11])), (p0, .inr (4, [.int (nI nc), .ref b1, .ref b2, .ref b3])), (b3, .inl (cI, 192, .inl pf))] := hD
            have hP := hP.sub (ws' := [(h0, .inr (8, [v0, v1, v2, v3, .int ld, .ref p0, v6, v7, v8, v9, v10, v11])), (p0, .inr (4, [.int (nI nc), .ref b1, .ref b2, .ref b3])), (b1, .inl (cI, 3, .inl (fun j => nI (L j)))), (b2, .inl (cI, 4, .inl cf)), (b3, .inl (cI, 192, .inl pf))]) [2, 3, 0, 1, 4] rfl
            have hD := hD.sub (ws' := [(h0, .inr (8, [v0, v1, v2, v3, .int ld, .ref p0, v6, v7, v8, v9, v10, v11])), (p0, .inr (4, [.int (nI nc), .ref b1, .ref b2, .ref b3])), (b1, .inl (cI, 3, .inl (fun j => nI (L j)))), (b2, .inl (cI, 4, .inl cf)), (b3, .inl (cI, 192, .inl pf))]) [2, 3, 0, 1, 4] (by decide) rfl
            exact gx_iret (w' := [(h0, .inr (8, [v0, v1, v2, v3, .int ld, .ref p0, v6, v7, v8, v9, v10, v11])), (p0, .inr (4, [.int (nI nc), .ref b1, .ref b2, .ref b3])), (b1, .inl (cI, 3, .inl (fun j => nI (L j)))), (b2, .inl (cI, 4, .inl cf)), (b3, .inl (cI, 192, .inl pf))]) hx hb hr hlk hK hP hD hS (Nat.le_of_ble_eq_true rfl) (Nat.le_of_ble_eq_true rfl) dX8_ins_47 ⟨(pf ((((jk * 8) + ji) * 8) + jw)), rfl, rfl⟩
          · refine lv_iconst (v := (-1)) hx hb dX8_ins_35 (by decide) ?_
            have hP := hP.sub (ws' := [(h0, .inr (8, [v0, v1, v2, v3, .int ld, .ref p0, v6, v7, v8, v9, v10, v11])), (p0, .inr (4, [.int (nI nc), .ref b1, .ref b2, .ref b3])), (b1, .inl (cI, 3, .inl (fun j => nI (L j)))), (b2, .inl (cI, 4, .inl cf)), (b3, .inl (cI, 192, .inl pf))]) [3, 4, 0, 1, 2] rfl
            have hD := hD.sub (ws' := [(h0, .inr (8, [v0, v1, v2, v3, .int ld, .ref p0, v6, v7, v8, v9, v10, v11])), (p0, .inr (4, [.int (nI nc), .ref b1, .ref b2, .ref b3])), (b1, .inl (cI, 3, .inl (fun j => nI (L j)))), (b2, .inl (cI, 4, .inl cf)), (b3, .inl (cI, 192, .inl pf))]) [3, 4, 0, 1, 2] (by decide) rfl
            exact gx_iret (w' := [(h0, .inr (8, [v0, v1, v2, v3, .int ld, .ref p0, v6, v7, v8, v9, v10, v11])), (p0, .inr (4, [.int (nI nc), .ref b1, .ref b2, .ref b3])), (b1, .inl (cI, 3, .inl (fun j => nI (L j)))), (b2, .inl (cI, 4, .inl cf)), (b3, .inl (cI, 192, .inl pf))]) hx hb hr hlk hK hP hD hS (Nat.le_of_ble_eq_true rfl) (Nat.le_of_ble_eq_true rfl) dX8_ins_36 ⟨(-1), rfl, rfl⟩
def wsP_c_register8 : List Cond := .code yX8_register cX8_register 3 (some .int) :: (([.fieldLink RX8 34 "LitmusHall" "machine" "LLitmusHall$Machine;", .fieldLink RX8 86 "LitmusHall$Machine" "stands" "Z", .methodLink RX8 96 yX8_hasCore, .instanceMethod yX8_hasCore, .selects RX8 yX8_hasCore yX8_hasCore, .initialized RX8, .fieldLink RX8 126 "LitmusHall$Machine" "state" "LLitmusHall$State;", .fieldLink RX8 130 "LitmusHall$State" "words" "[I"] ++ wsX80 ++ wsX30 ++ wsX70) ++ (wsP_c_hasCore ++ []))
set_option maxRecDepth 20000 in
theorem gP_c_register8__c_hasCore : GoodIn wsP_c_register8 (wsV RX8 96 RX8 yX8_hasCore wsP_c_hasCore) := gw_in (pre := [.methodLink RX8 96 yX8_hasCore, .instanceMethod yX8_hasCore, .selects RX8 yX8_hasCore yX8_hasCore, .initialized RX8]) (by decide +kernel) (fun _ h => List.mem_cons_of_mem _ (List.mem_append_right _ (List.mem_append_left _ h))) gW_c_hasCore
set_option maxHeartbeats 4000000 in
set_option maxRecDepth 100000 in
theorem c_register8 (l : Launch) (D : va_G) (cI cB cZ : ClassId) (h0 : Nat) (ld : Int32) (v0 : Value) (v1 : Value) (v2 : Value) (v3 : Value) (v7 : Value) (v8 : Value) (v9 : Value) (v10 : Value) (v11 : Value) (m0 : Nat) (ms : Nat) (mw : Nat) (mst : Int32) (mk : Value) (mm : Value) (md : Value) (mf : Nat → Int32) (p0 : Nat) (nc : Nat) (p1 : Value) (p2 : Value) (p3 : Value) (k : Int32) (x : Int32) (hc : nc ≤ 3) : gMi l yX8_register wsP_c_register8 ({ frames := 1, cells := 0, slots := 0, locals := 21 }) D cI cB cZ [] [.ref h0, .int k, .int x] [(h0, .inr (8, [v0, v1, v2, v3, .int ld, .ref p0, .ref m0, v7, v8, v9, v10, v11])), (m0, .inr (3, [.ref ms, .int mst, mk, mm, md])), (ms, .inr (7, [.ref mw])), (mw, .inl (cI, 34, .inl mf)), (p0, .inr (4, [.int (nI nc), p1, p2, p3]))] (fun r9 w9 => ∃ z : Int32, r9 = z ∧ w9 = [(h0, .inr (8, [v0, v1, v2, v3, .int ld, .ref p0, .ref m0, v7, v8, v9, v10, v11])), (m0, .inr (3, [.ref ms, .int mst, mk, mm, md])), (ms, .inr (7, [.ref mw])), (mw, .inl (cI, 34, .inl mf)), (p0, .inr (4, [.int (nI nc), p1, p2, p3]))]) := by
  refine gMi.of (cc := cX8_register) (maxL := 3) (ret := (some .int)) (by decide) rfl (Nat.le_of_ble_eq_true rfl) (fun p e s m below meth c A ls hx hb hr hlk hml hts hown hin hA hP hK hD hS hN hl => ?_)
  have hown : s.vm.findClass RX8 = some m.cls := hown
  have hl : lv_has ls 3 [(0, .ref h0), (1, .int k), (2, .int x)] := hl
  refine lv_aload_n hx hb dX8_register_0 rfl (lv_at hl 0 rfl) ?_
  refine va_get (D := D) (ci := 8) (v := .ref m0) (C := RX8) (T := TX8) (N := 12) hx hb hts (fun _ h => List.mem_cons_of_mem _ (List.mem_append_left _ (List.mem_append_left _ (List.mem_append_left _ (List.mem_append_right _ h))))) hown hK hP 0 rfl rfl 6 (by decide) (hts (.fieldLink RX8 34 "LitmusHall" "machine" "LLitmusHall$Machine;") (by decide +kernel)) (fun _ h9 => h9) rfl dX8_register_1 ?_
  refine va_get (D := D) (ci := 3) (v := .int mst) (C := RX3) (T := TX3) (N := 5) hx hb hts (fun _ h => List.mem_cons_of_mem _ (List.mem_append_left _ (List.mem_append_left _ (List.mem_append_right _ h)))) hown hK hP 1 rfl rfl 1 (by decide) (hts (.fieldLink RX8 86 "LitmusHall$Machine" "stands" "Z") (by decide +kernel)) (fun _ h9 => h9) rfl dX8_register_4 ?_
  refine lv_if_eq (tgt := 27) hx hb dX8_register_7 (by decide) (fun c_1 => ?_) (fun c_1 => ?_)
  · refine lv_iconst (v := 0) hx hb dX8_register_27 (by decide) ?_
    exact gx_iret (w' := [(h0, .inr (8, [v0, v1, v2, v3, .int ld, .ref p0, .ref m0, v7, v8, v9, v10, v11])), (m0, .inr (3, [.ref ms, .int mst, mk, mm, md])), (ms, .inr (7, [.ref mw])), (mw, .inl (cI, 34, .inl mf)), (p0, .inr (4, [.int (nI nc), p1, p2, p3]))]) hx hb hr hlk hK hP hD hS (Nat.le_of_ble_eq_true rfl) (Nat.le_of_ble_eq_true rfl) dX8_register_28 ⟨0, rfl, rfl⟩
  · refine lv_aload_n hx hb dX8_register_10 rfl (lv_at hl 0 rfl) ?_
    refine lv_iload_n hx hb dX8_register_11 rfl (lv_at hl 1 rfl) ?_
    refine gx_goi (wc := [(h0, .inr (8, [v0, v1, v2, v3, .int ld, .ref p0, .ref m0, v7, v8, v9, v10, v11])), (p0, .inr (4, [.int (nI nc), p1, p2, p3]))]) (wr := [(m0, .inr (3, [.ref ms, .int mst, mk, mm, md])), (ms, .inr (7, [.ref mw])), (mw, .inl (cI, 34, .inl mf))]) (va_runV (As := [.int k]) (rest := []) ⟨hx, hb, hml, hown, hts⟩ (c_hasCore l D cI cB cZ h0 p0 (v0) (v1) (v2) (v3) (.ref m0) (v7) (v8) (v9) (v10) (v11) (p1) (p2) (p3) ld nc k (by omega) _) (cwV 1 hts gP_c_register8__c_hasCore rfl rfl rfl (by decide +kernel) ⟨Nat.le_of_ble_eq_true rfl, Nat.le_of_ble_eq_true rfl⟩) (gx_preV (ci := 8) (q0 := 0) hK gN.nil hP hD [0, 4] rfl rfl rfl rfl) rfl rfl hl.1 rfl (lv_room (Nat.le_of_ble_eq_true rfl)) dX8_register_12 ⟨Nat.le_of_ble_eq_true rfl, Nat.le_of_ble_eq_true rfl⟩) hP hD hS hA [0, 4] [1, 2, 3] rfl rfl rfl (by decide) (fun r1 w1 H locs hp hP hD hS => ?_)
    obtain ⟨e_2, hq_3, h9, rfl⟩ := hp
    have h9 := h9.symm
    subst h9
    have hq_3 : e_2 = 0 ∨ (e_2 = 1 ∧ ¬ ld = 0 ∧ ∃ j, j < nc ∧ k = nI j) := hq_3
    have hP : va_P D vwCl [(m0, .inr (3, [.ref ms, .int mst, mk, mm, md])), (ms, .inr (7, [.ref mw])), (mw, .inl (cI, 34, .inl mf)), (h0, .inr (8, [v0, v1, v2, v3, .int ld, .ref p0, .ref m0, v7, v8, v9, v10, v11])), (p0, .inr (4, [.int (nI nc), p1, p2, p3]))] H := hP
    have hD : va_D A [(m0, .inr (3, [.ref ms, .int mst, mk, mm, md])), (ms, .inr (7, [.ref mw])), (mw, .inl (cI, 34, .inl mf)), (h0, .inr (8, [v0, v1, v2, v3, .int ld, .ref p0, .ref m0, v7, v8, v9, v10, v11])), (p0, .inr (4, [.int (nI nc), p1, p2, p3]))] := hD
    refine lv_if_eq (tgt := 27) hx hb dX8_register_15 (by decide) (fun c_4 => ?_) (fun c_4 => ?_)
    · refine lv_iconst (v := 0) hx hb dX8_register_27 (by decide) ?_
      have hP := hP.sub (ws' := [(h0, .inr (8, [v0, v1, v2, v3, .int ld, .ref p0, .ref m0, v7, v8, v9, v10, v11])), (m0, .inr (3, [.ref ms, .int mst, mk, mm, md])), (ms, .inr (7, [.ref mw])), (mw, .inl (cI, 34, .inl mf)), (p0, .inr (4, [.int (nI nc), p1, p2, p3]))]) [3, 0, 1, 2, 4] rfl
      have hD := hD.sub (ws' := [(h0, .inr (8, [v0, v1, v2, v3, .int ld, .ref p0, .ref m0, v7, v8, v9, v10, v11])), (m0, .inr (3, [.ref ms, .int mst, mk, mm, md])), (ms, .inr (7, [.ref mw])), (mw, .inl (cI, 34, .inl mf)), (p0, .inr (4, [.int (nI nc), p1, p2, p3]))]) [3, 0, 1, 2, 4] (by decide) rfl
      exact gx_iret (w' := [(h0, .inr (8, [v0, v1, v2, v3, .int ld, .ref p0, .ref m0, v7, v8, v9, v10, v11])), (m0, .inr (3, [.ref ms, .int mst, mk, mm, md])), (ms, .inr (7, [.ref mw])), (mw, .inl (cI, 34, .inl mf)), (p0, .inr (4, [.int (nI nc), p1, p2, p3]))]) hx hb hr hlk hK hP hD hS (Nat.le_of_ble_eq_true rfl) (Nat.le_of_ble_eq_true rfl) dX8_register_28 ⟨0, rfl, rfl⟩
    · obtain ⟨jk, hjk, rfl⟩ := ((hq_3).resolve_left c_4).2.2
      have hl : lv_has ls 3 [(0, .ref h0), (1, .int (nI jk)), (2, .int x)] := hl
      refine lv_iload_n hx hb dX8_register_18 rfl (lv_at hl 2 rfl) ?_
      refine lv_if_lt (tgt := 27) hx hb dX8_register_19 (by decide) (fun c_5 => ?_) (fun c_5 => ?_)
      · refine lv_iconst (v := 0) hx hb dX8_register_27 (by decide) ?_
        have hP := hP.sub (ws' := [(h0, .inr (8, [v0, v1, v2, v3, .int ld, .ref p0, .ref m0, v7, v8, v9, v10, v11])), (m0, .inr (3, [.ref ms, .int mst, mk, mm, md])), (ms, .inr (7, [.ref mw])), (mw, .inl (cI, 34, .inl mf)), (p0, .inr (4, [.int (nI nc), p1, p2, p3]))]) [3, 0, 1, 2, 4] rfl
        have hD := hD.sub (ws' := [(h0, .inr (8, [v0, v1, v2, v3, .int ld, .ref p0, .ref m0, v7, v8, v9, v10, v11])), (m0, .inr (3, [.ref ms, .int mst, mk, mm, md])), (ms, .inr (7, [.ref mw])), (mw, .inl (cI, 34, .inl mf)), (p0, .inr (4, [.int (nI nc), p1, p2, p3]))]) [3, 0, 1, 2, 4] (by decide) rfl
        exact gx_iret (w' := [(h0, .inr (8, [v0, v1, v2, v3, .int ld, .ref p0, .ref m0, v7, v8, v9, v10, v11])), (m0, .inr (3, [.ref ms, .int mst, mk, mm, md])), (ms, .inr (7, [.ref mw])), (mw, .inl (cI, 34, .inl mf)), (p0, .inr (4, [.int (nI nc), p1, p2, p3]))]) hx hb hr hlk hK hP hD hS (Nat.le_of_ble_eq_true rfl) (Nat.le_of_ble_eq_true rfl) dX8_register_28 ⟨0, rfl, rfl⟩
      · refine lv_iload_n hx hb dX8_register_22 rfl (lv_at hl 2 rfl) ?_
        refine lv_iconst (v := 3) hx hb dX8_register_23 (by decide) ?_
        refine lv_icmp_lt (tgt := 29) hx hb dX8_register_24 (by decide) (fun c_6 => ?_) (fun c_6 => ?_)
        · obtain ⟨jr, hjr, rfl⟩ := gy_inc (c := 3) (by decide) c_5 c_6
          have hl : lv_has ls 3 [(0, .ref h0), (1, .int (nI jk)), (2, .int (nI jr))] := hl
          refine lv_aload_n hx hb dX8_register_29 rfl (lv_at hl 0 rfl) ?_
          refine va_get (D := D) (ci := 8) (v := .ref m0) (C := RX8) (T := TX8) (N := 12) hx hb hts (fun _ h => List.mem_cons_of_mem _ (List.mem_append_left _ (List.mem_append_left _ (List.mem_append_left _ (List.mem_append_right _ h))))) hown hK hP 3 rfl rfl 6 (by decide) (hts (.fieldLink RX8 34 "LitmusHall" "machine" "LLitmusHall$Machine;") (by decide +kernel)) (fun _ h9 => h9) rfl dX8_register_30 ?_
          refine va_get (D := D) (ci := 3) (v := .ref ms) (C := RX3) (T := TX3) (N := 5) hx hb hts (fun _ h => List.mem_cons_of_mem _ (List.mem_append_left _ (List.mem_append_left _ (List.mem_append_right _ h)))) hown hK hP 0 rfl rfl 0 (by decide) (hts (.fieldLink RX8 126 "LitmusHall$Machine" "state" "LLitmusHall$State;") (by decide +kernel)) (fun _ h9 => h9) rfl dX8_register_33 ?_
          refine va_get (D := D) (ci := 7) (v := .ref mw) (C := RX7) (T := TX7) (N := 1) hx hb hts (fun _ h => List.mem_cons_of_mem _ (List.mem_append_left _ (List.mem_append_right _ h))) hown hK hP 1 rfl rfl 0 (by decide) (hts (.fieldLink RX8 130 "LitmusHall$State" "words" "[I") (by decide +kernel)) (fun _ h9 => h9) rfl dX8_register_36 ?_
          refine lv_iload_n hx hb dX8_register_39 rfl (lv_at hl 1 rfl) ?_
          refine lv_iconst (v := 3) hx hb dX8_register_40 (by decide) ?_
          refine lv_imul hx hb dX8_register_41 ?_
          refine gx_top (y := nI (jk * 3)) (pk_mul jk 3) ?_
          refine lv_iload_n hx hb dX8_register_42 rfl (lv_at hl 2 rfl) ?_
          refine lv_iadd hx hb dX8_register_43 ?_
          refine gx_top (y := nI ((jk * 3) + jr)) (nI_add (jk * 3) jr) ?_
          refine gy_ild (i := ((jk * 3) + jr)) hx hb hK hP 2 rfl (by omega) (by omega) dX8_register_44 ?_
          refine gx_gen (fun z_7 => ?_)
          have hP := hP.sub (ws' := [(h0, .inr (8, [v0, v1, v2, v3, .int ld, .ref p0, .ref m0, v7, v8, v9, v10, v11])), (m0, .inr (3, [.ref ms, .int mst, mk, mm, md])), (ms, .inr (7, [.ref mw])), (mw, .inl (cI, 34, .inl mf)), (p0, .inr (4, [.int (nI nc), p1, p2, p3]))]) [3, 0, 1, 2, 4] rfl
          have hD := hD.sub (ws' := [(h0, .inr (8, [v0, v1, v2, v3, .int ld, .ref p0, .ref m0, v7, v8, v9, v10, v11])), (m0, .inr (3, [.ref ms, .int mst, mk, mm, md])), (ms, .inr (7, [.ref mw])), (mw, .inl (cI, 34, .inl mf)), (p0, .inr (4, [.int (nI nc), p1, p2, p3]))]) [3, 0, 1, 2, 4] (by decide) rfl
          exact gx_iret (w' := [(h0, .inr (8, [v0, v1, v2, v3, .int ld, .ref p0, .ref m0, v7, v8, v9, v10, v11])), (m0, .inr (3, [.ref ms, .int mst, mk, mm, md])), (ms, .inr (7, [.ref mw])), (mw, .inl (cI, 34, .inl mf)), (p0, .inr (4, [.int (nI nc), p1, p2, p3]))]) hx hb hr hlk hK hP hD hS (Nat.le_of_ble_eq_true rfl) (Nat.le_of_ble_eq_true rfl) dX8_register_45 ⟨z_7, rfl, rfl⟩
        · refine lv_iconst (v := 0) hx hb dX8_register_27 (by decide) ?_
          have hP := hP.sub (ws' := [(h0, .inr (8, [v0, v1, v2, v3, .int ld, .ref p0, .ref m0, v7, v8, v9, v10, v11])), (m0, .inr (3, [.ref ms, .int mst, mk, mm, md])), (ms, .inr (7, [.ref mw])), (mw, .inl (cI, 34, .inl mf)), (p0, .inr (4, [.int (nI nc), p1, p2, p3]))]) [3, 0, 1, 2, 4] rfl
          have hD := hD.sub (ws' := [(h0, .inr (8, [v0, v1, v2, v3, .int ld, .ref p0, .ref m0, v7, v8, v9, v10, v11])), (m0, .inr (3, [.ref ms, .int mst, mk, mm, md])), (ms, .inr (7, [.ref mw])), (mw, .inl (cI, 34, .inl mf)), (p0, .inr (4, [.int (nI nc), p1, p2, p3]))]) [3, 0, 1, 2, 4] (by decide) rfl
          exact gx_iret (w' := [(h0, .inr (8, [v0, v1, v2, v3, .int ld, .ref p0, .ref m0, v7, v8, v9, v10, v11])), (m0, .inr (3, [.ref ms, .int mst, mk, mm, md])), (ms, .inr (7, [.ref mw])), (mw, .inl (cI, 34, .inl mf)), (p0, .inr (4, [.int (nI nc), p1, p2, p3]))]) hx hb hr hlk hK hP hD hS (Nat.le_of_ble_eq_true rfl) (Nat.le_of_ble_eq_true rfl) dX8_register_28 ⟨0, rfl, rfl⟩
def wsP_c_memory8 : List Cond := .code yX8_memory cX8_memory 2 (some .int) :: (([.fieldLink RX8 34 "LitmusHall" "machine" "LLitmusHall$Machine;", .fieldLink RX8 86 "LitmusHall$Machine" "stands" "Z", .fieldLink RX8 126 "LitmusHall$Machine" "state" "LLitmusHall$State;", .fieldLink RX8 130 "LitmusHall$State" "words" "[I"] ++ wsX80 ++ wsX30 ++ wsX70) ++ [])
set_option maxHeartbeats 4000000 in
set_option maxRecDepth 100000 in
theorem c_memory8 (l : Launch) (D : va_G) (cI cB cZ : ClassId) (h0 : Nat) (v0 : Value) (v1 : Value) (v2 : Value) (v3 : Value) (v4 : Value) (v5 : Value) (v7 : Value) (v8 : Value) (v9 : Value) (v10 : Value) (v11 : Value) (m0 : Nat) (ms : Nat) (mw : Nat) (mst : Int32) (mk : Value) (mm : Value) (md : Value) (mf : Nat → Int32) (x : Int32)  : gMi l yX8_memory wsP_c_memory8 ({ frames := 0, cells := 0, slots := 0, locals := 0 }) D cI cB cZ [] [.ref h0, .int x] [(h0, .inr (8, [v0, v1, v2, v3, v4, v5, .ref m0, v7, v8, v9, v10, v11])), (m0, .inr (3, [.ref ms, .int mst, mk, mm, md])), (ms, .inr (7, [.ref mw])), (mw, .inl (cI, 34, .inl mf))] (fun r9 w9 => ∃ z : Int32, r9 = z ∧ w9 = [(h0, .inr (8, [v0, v1, v2, v3, v4, v5, .ref m0, v7, v8, v9, v10, v11])), (m0, .inr (3, [.ref ms, .int mst, mk, mm, md])), (ms, .inr (7, [.ref mw])), (mw, .inl (cI, 34, .inl mf))]) := by
  refine gMi.of (cc := cX8_memory) (maxL := 2) (ret := (some .int)) (by decide) rfl (Nat.le_of_ble_eq_true rfl) (fun p e s m below meth c A ls hx hb hr hlk hml hts hown hin hA hP hK hD hS hN hl => ?_)
  have hown : s.vm.findClass RX8 = some m.cls := hown
  have hl : lv_has ls 2 [(0, .ref h0), (1, .int x)] := hl
  refine lv_aload_n hx hb dX8_memory_0 rfl (lv_at hl 0 rfl) ?_
  refine va_get (D := D) (ci := 8) (v := .ref m0) (C := RX8) (T := TX8) (N := 12) hx hb hts (fun _ h => List.mem_cons_of_mem _ (List.mem_append_left _ (List.mem_append_left _ (List.mem_append_left _ (List.mem_append_right _ h))))) hown hK hP 0 rfl rfl 6 (by decide) (hts (.fieldLink RX8 34 "LitmusHall" "machine" "LLitmusHall$Machine;") (by decide +kernel)) (fun _ h9 => h9) rfl dX8_memory_1 ?_
  refine va_get (D := D) (ci := 3) (v := .int mst) (C := RX3) (T := TX3) (N := 5) hx hb hts (fun _ h => List.mem_cons_of_mem _ (List.mem_append_left _ (List.mem_append_left _ (List.mem_append_right _ h)))) hown hK hP 1 rfl rfl 1 (by decide) (hts (.fieldLink RX8 86 "LitmusHall$Machine" "stands" "Z") (by decide +kernel)) (fun _ h9 => h9) rfl dX8_memory_4 ?_
  refine lv_if_eq (tgt := 19) hx hb dX8_memory_7 (by decide) (fun c_1 => ?_) (fun c_1 => ?_)
  · refine lv_iconst (v := 0) hx hb dX8_memory_19 (by decide) ?_
    exact gx_iret (w' := [(h0, .inr (8, [v0, v1, v2, v3, v4, v5, .ref m0, v7, v8, v9, v10, v11])), (m0, .inr (3, [.ref ms, .int mst, mk, mm, md])), (ms, .inr (7, [.ref mw])), (mw, .inl (cI, 34, .inl mf))]) hx hb hr hlk hK hP hD hS (Nat.le_of_ble_eq_true rfl) (Nat.le_of_ble_eq_true rfl) dX8_memory_20 ⟨0, rfl, rfl⟩
  · refine lv_iload_n hx hb dX8_memory_10 rfl (lv_at hl 1 rfl) ?_
    refine lv_if_lt (tgt := 19) hx hb dX8_memory_11 (by decide) (fun c_2 => ?_) (fun c_2 => ?_)
    · refine lv_iconst (v := 0) hx hb dX8_memory_19 (by decide) ?_
      exact gx_iret (w' := [(h0, .inr (8, [v0, v1, v2, v3, v4, v5, .ref m0, v7, v8, v9, v10, v11])), (m0, .inr (3, [.ref ms, .int mst, mk, mm, md])), (ms, .inr (7, [.ref mw])), (mw, .inl (cI, 34, .inl mf))]) hx hb hr hlk hK hP hD hS (Nat.le_of_ble_eq_true rfl) (Nat.le_of_ble_eq_true rfl) dX8_memory_20 ⟨0, rfl, rfl⟩
    · refine lv_iload_n hx hb dX8_memory_14 rfl (lv_at hl 1 rfl) ?_
      refine lv_iconst (v := 4) hx hb dX8_memory_15 (by decide) ?_
      refine lv_icmp_lt (tgt := 21) hx hb dX8_memory_16 (by decide) (fun c_3 => ?_) (fun c_3 => ?_)
      · obtain ⟨jr, hjr, rfl⟩ := gy_inc (c := 4) (by decide) c_2 c_3
        have hl : lv_has ls 2 [(0, .ref h0), (1, .int (nI jr))] := hl
        refine lv_aload_n hx hb dX8_memory_21 rfl (lv_at hl 0 rfl) ?_
        refine va_get (D := D) (ci := 8) (v := .ref m0) (C := RX8) (T := TX8) (N := 12) hx hb hts (fun _ h => List.mem_cons_of_mem _ (List.mem_append_left _ (List.mem_append_left _ (List.mem_append_left _ (List.mem_append_right _ h))))) hown hK hP 0 rfl rfl 6 (by decide) (hts (.fieldLink RX8 34 "LitmusHall" "machine" "LLitmusHall$Machine;") (by decide +kernel)) (fun _ h9 => h9) rfl dX8_memory_22 ?_
        refine va_get (D := D) (ci := 3) (v := .ref ms) (C := RX3) (T := TX3) (N := 5) hx hb hts (fun _ h => List.mem_cons_of_mem _ (List.mem_append_left _ (List.mem_append_left _ (List.mem_append_right _ h)))) hown hK hP 1 rfl rfl 0 (by decide) (hts (.fieldLink RX8 126 "LitmusHall$Machine" "state" "LLitmusHall$State;") (by decide +kernel)) (fun _ h9 => h9) rfl dX8_memory_25 ?_
        refine va_get (D := D) (ci := 7) (v := .ref mw) (C := RX7) (T := TX7) (N := 1) hx hb hts (fun _ h => List.mem_cons_of_mem _ (List.mem_append_left _ (List.mem_append_right _ h))) hown hK hP 2 rfl rfl 0 (by decide) (hts (.fieldLink RX8 130 "LitmusHall$State" "words" "[I") (by decide +kernel)) (fun _ h9 => h9) rfl dX8_memory_28 ?_
        refine lv_bipush (v := 9) hx hb dX8_memory_31 (by decide) ?_
        refine lv_iload_n hx hb dX8_memory_33 rfl (lv_at hl 1 rfl) ?_
        refine lv_iadd hx hb dX8_memory_34 ?_
        refine gx_top (y := nI (9 + jr)) (nI_add 9 jr) ?_
        refine gy_ild (i := (9 + jr)) hx hb hK hP 3 rfl (by omega) (by omega) dX8_memory_35 ?_
        refine gx_gen (fun z_4 => ?_)
        exact gx_iret (w' := [(h0, .inr (8, [v0, v1, v2, v3, v4, v5, .ref m0, v7, v8, v9, v10, v11])), (m0, .inr (3, [.ref ms, .int mst, mk, mm, md])), (ms, .inr (7, [.ref mw])), (mw, .inl (cI, 34, .inl mf))]) hx hb hr hlk hK hP hD hS (Nat.le_of_ble_eq_true rfl) (Nat.le_of_ble_eq_true rfl) dX8_memory_36 ⟨z_4, rfl, rfl⟩
      · refine lv_iconst (v := 0) hx hb dX8_memory_19 (by decide) ?_
        exact gx_iret (w' := [(h0, .inr (8, [v0, v1, v2, v3, v4, v5, .ref m0, v7, v8, v9, v10, v11])), (m0, .inr (3, [.ref ms, .int mst, mk, mm, md])), (ms, .inr (7, [.ref mw])), (mw, .inl (cI, 34, .inl mf))]) hx hb hr hlk hK hP hD hS (Nat.le_of_ble_eq_true rfl) (Nat.le_of_ble_eq_true rfl) dX8_memory_20 ⟨0, rfl, rfl⟩
def wsP_c_next8 : List Cond := .code yX8_next cX8_next 2 (some .int) :: (([.fieldLink RX8 34 "LitmusHall" "machine" "LLitmusHall$Machine;", .fieldLink RX8 86 "LitmusHall$Machine" "stands" "Z", .methodLink RX8 96 yX8_hasCore, .instanceMethod yX8_hasCore, .selects RX8 yX8_hasCore yX8_hasCore, .initialized RX8, .fieldLink RX8 126 "LitmusHall$Machine" "state" "LLitmusHall$State;", .methodLink RX8 135 yX7_nextOf, .instanceMethod yX7_nextOf, .selects RX7 yX7_nextOf yX7_nextOf, .initialized RX7] ++ wsX80 ++ wsX30) ++ (wsP_c_hasCore ++ (wsP_c_nextOf ++ [])))
set_option maxRecDepth 20000 in
theorem gP_c_next8__c_hasCore : GoodIn wsP_c_next8 (wsV RX8 96 RX8 yX8_hasCore wsP_c_hasCore) := gw_in (pre := [.methodLink RX8 96 yX8_hasCore, .instanceMethod yX8_hasCore, .selects RX8 yX8_hasCore yX8_hasCore, .initialized RX8]) (by decide +kernel) (fun _ h => List.mem_cons_of_mem _ (List.mem_append_right _ (List.mem_append_left _ h))) gW_c_hasCore
set_option maxRecDepth 20000 in
theorem gP_c_next8__c_nextOf : GoodIn wsP_c_next8 (wsV RX8 135 RX7 yX7_nextOf wsP_c_nextOf) := gw_in (pre := [.methodLink RX8 135 yX7_nextOf, .instanceMethod yX7_nextOf, .selects RX7 yX7_nextOf yX7_nextOf, .initialized RX7]) (by decide +kernel) (fun _ h => List.mem_cons_of_mem _ (List.mem_append_right _ (List.mem_append_right _ (List.mem_append_left _ h)))) gW_c_nextOf
set_option maxHeartbeats 4000000 in
set_option maxRecDepth 100000 in
theorem c_next8 (l : Launch) (D : va_G) (cI cB cZ : ClassId) (h0 : Nat) (ld : Int32) (v0 : Value) (v1 : Value) (v2 : Value) (v3 : Value) (v7 : Value) (v8 : Value) (v9 : Value) (v10 : Value) (v11 : Value) (m0 : Nat) (ms : Nat) (mw : Nat) (mst : Int32) (mk : Value) (mm : Value) (md : Value) (mf : Nat → Int32) (p0 : Nat) (nc : Nat) (p1 : Value) (p2 : Value) (p3 : Value) (k : Int32) (hc : nc ≤ 3) : gMi l yX8_next wsP_c_next8 ({ frames := 1, cells := 0, slots := 0, locals := 21 }) D cI cB cZ [] [.ref h0, .int k] [(h0, .inr (8, [v0, v1, v2, v3, .int ld, .ref p0, .ref m0, v7, v8, v9, v10, v11])), (m0, .inr (3, [.ref ms, .int mst, mk, mm, md])), (ms, .inr (7, [.ref mw])), (mw, .inl (cI, 34, .inl mf)), (p0, .inr (4, [.int (nI nc), p1, p2, p3]))] (fun r9 w9 => ∃ z : Int32, r9 = z ∧ w9 = [(h0, .inr (8, [v0, v1, v2, v3, .int ld, .ref p0, .ref m0, v7, v8, v9, v10, v11])), (m0, .inr (3, [.ref ms, .int mst, mk, mm, md])), (ms, .inr (7, [.ref mw])), (mw, .inl (cI, 34, .inl mf)), (p0, .inr (4, [.int (nI nc), p1, p2, p3]))]) := by
  refine gMi.of (cc := cX8_next) (maxL := 2) (ret := (some .int)) (by decide) rfl (Nat.le_of_ble_eq_true rfl) (fun p e s m below meth c A ls hx hb hr hlk hml hts hown hin hA hP hK hD hS hN hl => ?_)
  have hown : s.vm.findClass RX8 = some m.cls := hown
  have hl : lv_has ls 2 [(0, .ref h0), (1, .int k)] := hl
  refine lv_aload_n hx hb dX8_next_0 rfl (lv_at hl 0 rfl) ?_
  refine va_get (D := D) (ci := 8) (v := .ref m0) (C := RX8) (T := TX8) (N := 12) hx hb hts (fun _ h => List.mem_cons_of_mem _ (List.mem_append_left _ (List.mem_append_left _ (List.mem_append_right _ h)))) hown hK hP 0 rfl rfl 6 (by decide) (hts (.fieldLink RX8 34 "LitmusHall" "machine" "LLitmusHall$Machine;") (by decide +kernel)) (fun _ h9 => h9) rfl dX8_next_1 ?_
  refine va_get (D := D) (ci := 3) (v := .int mst) (C := RX3) (T := TX3) (N := 5) hx hb hts (fun _ h => List.mem_cons_of_mem _ (List.mem_append_left _ (List.mem_append_right _ h))) hown hK hP 1 rfl rfl 1 (by decide) (hts (.fieldLink RX8 86 "LitmusHall$Machine" "stands" "Z") (by decide +kernel)) (fun _ h9 => h9) rfl dX8_next_4 ?_
  refine lv_if_eq (tgt := 32) hx hb dX8_next_7 (by decide) (fun c_1 => ?_) (fun c_1 => ?_)
  · refine lv_iconst (v := (-1)) hx hb dX8_next_32 (by decide) ?_
    exact gx_iret (w' := [(h0, .inr (8, [v0, v1, v2, v3, .int ld, .ref p0, .ref m0, v7, v8, v9, v10, v11])), (m0, .inr (3, [.ref ms, .int mst, mk, mm, md])), (ms, .inr (7, [.ref mw])), (mw, .inl (cI, 34, .inl mf)), (p0, .inr (4, [.int (nI nc), p1, p2, p3]))]) hx hb hr hlk hK hP hD hS (Nat.le_of_ble_eq_true rfl) (Nat.le_of_ble_eq_true rfl) dX8_next_33 ⟨(-1), rfl, rfl⟩
  · refine lv_aload_n hx hb dX8_next_10 rfl (lv_at hl 0 rfl) ?_
    refine lv_iload_n hx hb dX8_next_11 rfl (lv_at hl 1 rfl) ?_
    refine gx_goi (wc := [(h0, .inr (8, [v0, v1, v2, v3, .int ld, .ref p0, .ref m0, v7, v8, v9, v10, v11])), (p0, .inr (4, [.int (nI nc), p1, p2, p3]))]) (wr := [(m0, .inr (3, [.ref ms, .int mst, mk, mm, md])), (ms, .inr (7, [.ref mw])), (mw, .inl (cI, 34, .inl mf))]) (va_runV (As := [.int k]) (rest := []) ⟨hx, hb, hml, hown, hts⟩ (c_hasCore l D cI cB cZ h0 p0 (v0) (v1) (v2) (v3) (.ref m0) (v7) (v8) (v9) (v10) (v11) (p1) (p2) (p3) ld nc k (by omega) _) (cwV 1 hts gP_c_next8__c_hasCore rfl rfl rfl (by decide +kernel) ⟨Nat.le_of_ble_eq_true rfl, Nat.le_of_ble_eq_true rfl⟩) (gx_preV (ci := 8) (q0 := 0) hK gN.nil hP hD [0, 4] rfl rfl rfl rfl) rfl rfl hl.1 rfl (lv_room (Nat.le_of_ble_eq_true rfl)) dX8_next_12 ⟨Nat.le_of_ble_eq_true rfl, Nat.le_of_ble_eq_true rfl⟩) hP hD hS hA [0, 4] [1, 2, 3] rfl rfl rfl (by decide) (fun r1 w1 H locs hp hP hD hS => ?_)
    obtain ⟨e_2, hq_3, h9, rfl⟩ := hp
    have h9 := h9.symm
    subst h9
    have hq_3 : e_2 = 0 ∨ (e_2 = 1 ∧ ¬ ld = 0 ∧ ∃ j, j < nc ∧ k = nI j) := hq_3
    have hP : va_P D vwCl [(m0, .inr (3, [.ref ms, .int mst, mk, mm, md])), (ms, .inr (7, [.ref mw])), (mw, .inl (cI, 34, .inl mf)), (h0, .inr (8, [v0, v1, v2, v3, .int ld, .ref p0, .ref m0, v7, v8, v9, v10, v11])), (p0, .inr (4, [.int (nI nc), p1, p2, p3]))] H := hP
    have hD : va_D A [(m0, .inr (3, [.ref ms, .int mst, mk, mm, md])), (ms, .inr (7, [.ref mw])), (mw, .inl (cI, 34, .inl mf)), (h0, .inr (8, [v0, v1, v2, v3, .int ld, .ref p0, .ref m0, v7, v8, v9, v10, v11])), (p0, .inr (4, [.int (nI nc), p1, p2, p3]))] := hD
    refine lv_if_eq (tgt := 32) hx hb dX8_next_15 (by decide) (fun c_4 => ?_) (fun c_4 => ?_)
    · refine lv_iconst (v := (-1)) hx hb dX8_next_32 (by decide) ?_
      have hP := hP.sub (ws' := [(h0, .inr (8, [v0, v1, v2, v3, .int ld, .ref p0, .ref m0, v7, v8, v9, v10, v11])), (m0, .inr (3, [.ref ms, .int mst, mk, mm, md])), (ms, .inr (7, [.ref mw])), (mw, .inl (cI, 34, .inl mf)), (p0, .inr (4, [.int (nI nc), p1, p2, p3]))]) [3, 0, 1, 2, 4] rfl
      have hD := hD.sub (ws' := [(h0, .inr (8, [v0, v1, v2, v3, .int ld, .ref p0, .ref m0, v7, v8, v9, v10, v11])), (m0, .inr (3, [.ref ms, .int mst, mk, mm, md])), (ms, .inr (7, [.ref mw])), (mw, .inl (cI, 34, .inl mf)), (p0, .inr (4, [.int (nI nc), p1, p2, p3]))]) [3, 0, 1, 2, 4] (by decide) rfl
      exact gx_iret (w' := [(h0, .inr (8, [v0, v1, v2, v3, .int ld, .ref p0, .ref m0, v7, v8, v9, v10, v11])), (m0, .inr (3, [.ref ms, .int mst, mk, mm, md])), (ms, .inr (7, [.ref mw])), (mw, .inl (cI, 34, .inl mf)), (p0, .inr (4, [.int (nI nc), p1, p2, p3]))]) hx hb hr hlk hK hP hD hS (Nat.le_of_ble_eq_true rfl) (Nat.le_of_ble_eq_true rfl) dX8_next_33 ⟨(-1), rfl, rfl⟩
    · obtain ⟨jk, hjk, rfl⟩ := ((hq_3).resolve_left c_4).2.2
      have hl : lv_has ls 2 [(0, .ref h0), (1, .int (nI jk))] := hl
      refine lv_aload_n hx hb dX8_next_18 rfl (lv_at hl 0 rfl) ?_
      refine va_get (D := D) (ci := 8) (v := .ref m0) (C := RX8) (T := TX8) (N := 12) hx hb hts (fun _ h => List.mem_cons_of_mem _ (List.mem_append_left _ (List.mem_append_left _ (List.mem_append_right _ h)))) hown hK hP 3 rfl rfl 6 (by decide) (hts (.fieldLink RX8 34 "LitmusHall" "machine" "LLitmusHall$Machine;") (by decide +kernel)) (fun _ h9 => h9) rfl dX8_next_19 ?_
      refine va_get (D := D) (ci := 3) (v := .ref ms) (C := RX3) (T := TX3) (N := 5) hx hb hts (fun _ h => List.mem_cons_of_mem _ (List.mem_append_left _ (List.mem_append_right _ h))) hown hK hP 0 rfl rfl 0 (by decide) (hts (.fieldLink RX8 126 "LitmusHall$Machine" "state" "LLitmusHall$State;") (by decide +kernel)) (fun _ h9 => h9) rfl dX8_next_22 ?_
      refine lv_iload_n hx hb dX8_next_25 rfl (lv_at hl 1 rfl) ?_
      refine gx_goi (wc := [(ms, .inr (7, [.ref mw])), (mw, .inl (cI, 34, .inl mf))]) (wr := [(m0, .inr (3, [.ref ms, .int mst, mk, mm, md])), (h0, .inr (8, [v0, v1, v2, v3, .int ld, .ref p0, .ref m0, v7, v8, v9, v10, v11])), (p0, .inr (4, [.int (nI nc), p1, p2, p3]))]) (va_runV (As := [.int (nI jk)]) (rest := []) ⟨hx, hb, hml, hown, hts⟩ (c_nextOf l D cI cB cZ ms mw mf jk (by omega) _) (cwV 1 hts gP_c_next8__c_nextOf rfl rfl rfl (by decide +kernel) ⟨Nat.le_of_ble_eq_true rfl, Nat.le_of_ble_eq_true rfl⟩) (gx_preV (ci := 7) (q0 := 0) hK gN.nil hP hD [1, 2] rfl rfl rfl rfl) rfl rfl hl.1 rfl (lv_room (Nat.le_of_ble_eq_true rfl)) dX8_next_26 ⟨Nat.le_of_ble_eq_true rfl, Nat.le_of_ble_eq_true rfl⟩) hP hD hS hA [1, 2] [0, 3, 4] rfl rfl rfl (by decide) (fun r1 w1 H locs hp hP hD hS => ?_)
      obtain ⟨h9, rfl⟩ := hp
      have h9 := h9.symm
      subst h9
      have hP : va_P D vwCl [(m0, .inr (3, [.ref ms, .int mst, mk, mm, md])), (h0, .inr (8, [v0, v1, v2, v3, .int ld, .ref p0, .ref m0, v7, v8, v9, v10, v11])), (p0, .inr (4, [.int (nI nc), p1, p2, p3])), (ms, .inr (7, [.ref mw])), (mw, .inl (cI, 34, .inl mf))] H := hP
      have hD : va_D A [(m0, .inr (3, [.ref ms, .int mst, mk, mm, md])), (h0, .inr (8, [v0, v1, v2, v3, .int ld, .ref p0, .ref m0, v7, v8, v9, v10, v11])), (p0, .inr (4, [.int (nI nc), p1, p2, p3])), (ms, .inr (7, [.ref mw])), (mw, .inl (cI, 34, .inl mf))] := hD
      refine lv_goto (tgt := 33) hx hb dX8_next_29 (by decide) ?_
      have hP := hP.sub (ws' := [(h0, .inr (8, [v0, v1, v2, v3, .int ld, .ref p0, .ref m0, v7, v8, v9, v10, v11])), (m0, .inr (3, [.ref ms, .int mst, mk, mm, md])), (ms, .inr (7, [.ref mw])), (mw, .inl (cI, 34, .inl mf)), (p0, .inr (4, [.int (nI nc), p1, p2, p3]))]) [1, 0, 3, 4, 2] rfl
      have hD := hD.sub (ws' := [(h0, .inr (8, [v0, v1, v2, v3, .int ld, .ref p0, .ref m0, v7, v8, v9, v10, v11])), (m0, .inr (3, [.ref ms, .int mst, mk, mm, md])), (ms, .inr (7, [.ref mw])), (mw, .inl (cI, 34, .inl mf)), (p0, .inr (4, [.int (nI nc), p1, p2, p3]))]) [1, 0, 3, 4, 2] (by decide) rfl
      exact gx_iret (w' := [(h0, .inr (8, [v0, v1, v2, v3, .int ld, .ref p0, .ref m0, v7, v8, v9, v10, v11])), (m0, .inr (3, [.ref ms, .int mst, mk, mm, md])), (ms, .inr (7, [.ref mw])), (mw, .inl (cI, 34, .inl mf)), (p0, .inr (4, [.int (nI nc), p1, p2, p3]))]) hx hb hr hlk hK hP hD hS (Nat.le_of_ble_eq_true rfl) (Nat.le_of_ble_eq_true rfl) dX8_next_33 ⟨(nI (gNx (mf (13 + jk)))), rfl, rfl⟩
