theorem dX8_begin_0 : decode cX8_begin 0 = .ok (.aload_n 0, 1) := by decide +kernel
theorem dX8_begin_1 : decode cX8_begin 1 = .ok (.getfield 79, 3) := by decide +kernel
theorem dX8_begin_11 : decode cX8_begin 11 = .ok (.ifCond .ne 5, 3) := by decide +kernel
theorem dX8_begin_14 : decode cX8_begin 14 = .ok (.iconst 0, 1) := by decide +kernel
theorem dX8_begin_15 : decode cX8_begin 15 = .ok (.ireturn, 1) := by decide +kernel
theorem dX8_begin_16 : decode cX8_begin 16 = .ok (.aload_n 0, 1) := by decide +kernel
theorem dX8_begin_17 : decode cX8_begin 17 = .ok (.getfield 34, 3) := by decide +kernel
theorem dX8_begin_20 : decode cX8_begin 20 = .ok (.aload_n 0, 1) := by decide +kernel
theorem dX8_begin_21 : decode cX8_begin 21 = .ok (.getfield 27, 3) := by decide +kernel
theorem dX8_begin_24 : decode cX8_begin 24 = .ok (.iload_n 1, 1) := by decide +kernel
theorem dX8_begin_25 : decode cX8_begin 25 = .ok (.invokevirtual 114, 3) := by decide +kernel
theorem dX8_begin_28 : decode cX8_begin 28 = .ok (.iconst 1, 1) := by decide +kernel
theorem dX8_begin_29 : decode cX8_begin 29 = .ok (.ireturn, 1) := by decide +kernel
theorem dX8_begin_4 : decode cX8_begin 4 = .ok (.ifCond .eq 10, 3) := by decide +kernel
theorem dX8_begin_7 : decode cX8_begin 7 = .ok (.iload_n 1, 1) := by decide +kernel
theorem dX8_begin_8 : decode cX8_begin 8 = .ok (.invokestatic 111, 3) := by decide +kernel
theorem dX8_step_0 : decode cX8_step 0 = .ok (.aload_n 0, 1) := by decide +kernel
theorem dX8_step_1 : decode cX8_step 1 = .ok (.getfield 34, 3) := by decide +kernel
theorem dX8_step_10 : decode cX8_step 10 = .ok (.aload_n 0, 1) := by decide +kernel
theorem dX8_step_11 : decode cX8_step 11 = .ok (.getfield 34, 3) := by decide +kernel
theorem dX8_step_14 : decode cX8_step 14 = .ok (.aload_n 0, 1) := by decide +kernel
theorem dX8_step_15 : decode cX8_step 15 = .ok (.getfield 27, 3) := by decide +kernel
theorem dX8_step_18 : decode cX8_step 18 = .ok (.iload_n 1, 1) := by decide +kernel
theorem dX8_step_19 : decode cX8_step 19 = .ok (.invokevirtual 118, 3) := by decide +kernel
theorem dX8_step_22 : decode cX8_step 22 = .ok (.ifCond .eq 7, 3) := by decide +kernel
theorem dX8_step_25 : decode cX8_step 25 = .ok (.iconst 1, 1) := by decide +kernel
theorem dX8_step_26 : decode cX8_step 26 = .ok (.goto 4, 3) := by decide +kernel
theorem dX8_step_29 : decode cX8_step 29 = .ok (.iconst 0, 1) := by decide +kernel
theorem dX8_step_30 : decode cX8_step 30 = .ok (.ireturn, 1) := by decide +kernel
theorem dX8_step_4 : decode cX8_step 4 = .ok (.getfield 86, 3) := by decide +kernel
theorem dX8_step_7 : decode cX8_step 7 = .ok (.ifCond .eq 22, 3) := by decide +kernel
theorem dX8_undo_0 : decode cX8_undo 0 = .ok (.aload_n 0, 1) := by decide +kernel
theorem dX8_undo_1 : decode cX8_undo 1 = .ok (.getfield 34, 3) := by decide +kernel
theorem dX8_undo_10 : decode cX8_undo 10 = .ok (.aload_n 0, 1) := by decide +kernel
theorem dX8_undo_11 : decode cX8_undo 11 = .ok (.getfield 34, 3) := by decide +kernel
theorem dX8_undo_14 : decode cX8_undo 14 = .ok (.aload_n 0, 1) := by decide +kernel
theorem dX8_undo_15 : decode cX8_undo 15 = .ok (.getfield 27, 3) := by decide +kernel
theorem dX8_undo_18 : decode cX8_undo 18 = .ok (.invokevirtual 122, 3) := by decide +kernel
theorem dX8_undo_21 : decode cX8_undo 21 = .ok (.ifCond .eq 7, 3) := by decide +kernel
theorem dX8_undo_24 : decode cX8_undo 24 = .ok (.iconst 1, 1) := by decide +kernel
theorem dX8_undo_25 : decode cX8_undo 25 = .ok (.goto 4, 3) := by decide +kernel
theorem dX8_undo_28 : decode cX8_undo 28 = .ok (.iconst 0, 1) := by decide +kernel
theorem dX8_undo_29 : decode cX8_undo 29 = .ok (.ireturn, 1) := by decide +kernel
theorem dX8_undo_4 : decode cX8_undo 4 = .ok (.getfield 86, 3) := by decide +kernel
theorem dX8_undo_7 : decode cX8_undo 7 = .ok (.ifCond .eq 21, 3) := by decide +kernel
def gMs (mst : Int32) (pf cf : Nat → Int32) (mm : Int32) (dn : Nat → Int32) (L : Nat → Nat) (nc mk : Nat) (mf : Nat → Int32) : Prop := mst = 0 ∨ (gMach pf cf mm dn L nc mk ∧ mf = gRun pf cf mm dn mk)
def wsP_c_step8 : List Cond := .code yX8_step cX8_step 2 (some .boolean) :: (([.fieldLink RX8 34 "LitmusHall" "machine" "LLitmusHall$Machine;", .fieldLink RX8 86 "LitmusHall$Machine" "stands" "Z", .fieldLink RX8 27 "LitmusHall" "program" "LLitmusHall$Program;", .methodLink RX8 118 yX3_go, .instanceMethod yX3_go, .selects RX3 yX3_go yX3_go, .initialized RX3] ++ wsX80 ++ wsX30) ++ (wsP_c_go ++ []))
set_option maxRecDepth 20000 in
theorem gP_c_step8__c_go : GoodIn wsP_c_step8 (wsV RX8 118 RX3 yX3_go wsP_c_go) := gw_in (pre := [.methodLink RX8 118 yX3_go, .instanceMethod yX3_go, .selects RX3 yX3_go yX3_go, .initialized RX3]) (by decide +kernel) (fun _ h => List.mem_cons_of_mem _ (List.mem_append_right _ (List.mem_append_left _ h))) gW_c_go
set_option maxHeartbeats 4000000 in
set_option maxRecDepth 100000 in
theorem c_step8 (l : Launch) (D : va_G) (cI cB cZ : ClassId) (h0 : Nat) (ld : Int32) (v0 : Value) (v1 : Value) (v2 : Value) (v3 : Value) (v7 : Value) (v8 : Value) (v9 : Value) (v10 : Value) (v11 : Value) (m0 : Nat) (ms : Nat) (mw : Nat) (md : Nat) (mst : Int32) (mk : Nat) (mm : Int32) (mf : Nat → Int32) (dn : Nat → Int32) (p0 : Nat) (b1 : Nat) (b2 : Nat) (b3 : Nat) (nc : Nat) (L : Nat → Nat) (cf : Nat → Int32) (pf : Nat → Int32) (x : Int32) (hc : nc ≤ 3) (hL : ∀ k, k < 3 → L k ≤ 8) (hI : gG L pf 7) (hmk : mk ≤ 38) (hM : gMs mst pf cf mm dn L nc mk mf) : gMi l yX8_step wsP_c_step8 ({ frames := 4, cells := 0, slots := 0, locals := 113 }) D cI cB cZ [] [.ref h0, .int x] [(h0, .inr (8, [v0, v1, v2, v3, .int ld, .ref p0, .ref m0, v7, v8, v9, v10, v11])), (m0, .inr (3, [.ref ms, .int mst, .int (nI mk), .int mm, .ref md])), (ms, .inr (7, [.ref mw])), (mw, .inl (cI, 34, .inl mf)), (md, .inl (cI, 38, .inl dn)), (p0, .inr (4, [.int (nI nc), .ref b1, .ref b2, .ref b3])), (b1, .inl (cI, 3, .inl (fun j => nI (L j)))), (b2, .inl (cI, 4, .inl cf)), (b3, .inl (cI, 192, .inl pf))] (fun r9 w9 => ∃ z : Int32, ∃ mk9 : Nat, ∃ dn9 : Nat → Int32, ∃ mf9 : Nat → Int32, (gZ z) ∧ (mk9 ≤ 38) ∧ (gMs mst pf cf mm dn9 L nc mk9 mf9) ∧ r9 = z ∧ w9 = [(h0, .inr (8, [v0, v1, v2, v3, .int ld, .ref p0, .ref m0, v7, v8, v9, v10, v11])), (m0, .inr (3, [.ref ms, .int mst, .int (nI mk9), .int mm, .ref md])), (ms, .inr (7, [.ref mw])), (mw, .inl (cI, 34, .inl mf9)), (md, .inl (cI, 38, .inl dn9)), (p0, .inr (4, [.int (nI nc), .ref b1, .ref b2, .ref b3])), (b1, .inl (cI, 3, .inl (fun j => nI (L j)))), (b2, .inl (cI, 4, .inl cf)), (b3, .inl (cI, 192, .inl pf))]) := by
  refine gMi.of (cc := cX8_step) (maxL := 2) (ret := (some .boolean)) (by decide) rfl (Nat.le_of_ble_eq_true rfl) (fun p e s m below meth c A ls hx hb hr hlk hml hts hown hin hA hP hK hD hS hN hl => ?_)
  have hown : s.vm.findClass RX8 = some m.cls := hown
  have hl : lv_has ls 2 [(0, .ref h0), (1, .int x)] := hl
  refine lv_aload_n hx hb dX8_step_0 rfl (lv_at hl 0 rfl) ?_
  refine va_get (D := D) (ci := 8) (v := .ref m0) (C := RX8) (T := TX8) (N := 12) hx hb hts (fun _ h => List.mem_cons_of_mem _ (List.mem_append_left _ (List.mem_append_left _ (List.mem_append_right _ h)))) hown hK hP 0 rfl rfl 6 (by decide) (hts (.fieldLink RX8 34 "LitmusHall" "machine" "LLitmusHall$Machine;") (by decide +kernel)) (fun _ h9 => h9) rfl dX8_step_1 ?_
  refine va_get (D := D) (ci := 3) (v := .int mst) (C := RX3) (T := TX3) (N := 5) hx hb hts (fun _ h => List.mem_cons_of_mem _ (List.mem_append_left _ (List.mem_append_right _ h))) hown hK hP 1 rfl rfl 1 (by decide) (hts (.fieldLink RX8 86 "LitmusHall$Machine" "stands" "Z") (by decide +kernel)) (fun _ h9 => h9) rfl dX8_step_4 ?_
  refine lv_if_eq (tgt := 29) hx hb dX8_step_7 (by decide) (fun c_1 => ?_) (fun c_1 => ?_)
  · refine lv_iconst (v := 0) hx hb dX8_step_29 (by decide) ?_
    exact gx_zret (w' := [(h0, .inr (8, [v0, v1, v2, v3, .int ld, .ref p0, .ref m0, v7, v8, v9, v10, v11])), (m0, .inr (3, [.ref ms, .int mst, .int (nI mk), .int mm, .ref md])), (ms, .inr (7, [.ref mw])), (mw, .inl (cI, 34, .inl mf)), (md, .inl (cI, 38, .inl dn)), (p0, .inr (4, [.int (nI nc), .ref b1, .ref b2, .ref b3])), (b1, .inl (cI, 3, .inl (fun j => nI (L j)))), (b2, .inl (cI, 4, .inl cf)), (b3, .inl (cI, 192, .inl pf))]) hx hb hr hlk hK hP hD hS (Nat.le_of_ble_eq_true rfl) (Nat.le_of_ble_eq_true rfl) dX8_step_30 rfl ⟨0, mk, dn, mf, (by first | exact Or.inl rfl | exact Or.inr rfl), (by omega), (by first | exact Or.inr ⟨hm1, rfl⟩ | exact hM), rfl, rfl⟩
  · obtain ⟨hm, rfl⟩ := hM.resolve_left c_1
    refine lv_aload_n hx hb dX8_step_10 rfl (lv_at hl 0 rfl) ?_
    refine va_get (D := D) (ci := 8) (v := .ref m0) (C := RX8) (T := TX8) (N := 12) hx hb hts (fun _ h => List.mem_cons_of_mem _ (List.mem_append_left _ (List.mem_append_left _ (List.mem_append_right _ h)))) hown hK hP 0 rfl rfl 6 (by decide) (hts (.fieldLink RX8 34 "LitmusHall" "machine" "LLitmusHall$Machine;") (by decide +kernel)) (fun _ h9 => h9) rfl dX8_step_11 ?_
    refine lv_aload_n hx hb dX8_step_14 rfl (lv_at hl 0 rfl) ?_
    refine va_get (D := D) (ci := 8) (v := .ref p0) (C := RX8) (T := TX8) (N := 12) hx hb hts (fun _ h => List.mem_cons_of_mem _ (List.mem_append_left _ (List.mem_append_left _ (List.mem_append_right _ h)))) hown hK hP 0 rfl rfl 5 (by decide) (hts (.fieldLink RX8 27 "LitmusHall" "program" "LLitmusHall$Program;") (by decide +kernel)) (fun _ h9 => h9) rfl dX8_step_15 ?_
    refine lv_iload_n hx hb dX8_step_18 rfl (lv_at hl 1 rfl) ?_
    refine gx_goi (wc := [(m0, .inr (3, [.ref ms, .int mst, .int (nI mk), .int mm, .ref md])), (ms, .inr (7, [.ref mw])), (mw, .inl (cI, 34, .inl (gRun pf cf mm dn mk))), (md, .inl (cI, 38, .inl dn)), (p0, .inr (4, [.int (nI nc), .ref b1, .ref b2, .ref b3])), (b1, .inl (cI, 3, .inl (fun j => nI (L j)))), (b2, .inl (cI, 4, .inl cf)), (b3, .inl (cI, 192, .inl pf))]) (wr := [(h0, .inr (8, [v0, v1, v2, v3, .int ld, .ref p0, .ref m0, v7, v8, v9, v10, v11]))]) (va_runV (As := [.ref p0, .int x]) (rest := []) ⟨hx, hb, hml, hown, hts⟩ (c_go l D cI cB cZ m0 ms mw md (.int mst) mk mm dn p0 b1 b2 b3 nc L cf pf x (by omega) hL hI (by omega) hm _) (cwV 2 hts gP_c_step8__c_go rfl rfl rfl (by decide +kernel) ⟨Nat.le_of_ble_eq_true rfl, Nat.le_of_ble_eq_true rfl⟩) (gx_preV (ci := 3) (q0 := 0) hK gN.nil hP hD [1, 2, 3, 4, 5, 6, 7, 8] rfl rfl rfl rfl) rfl rfl hl.1 rfl (lv_room (Nat.le_of_ble_eq_true rfl)) dX8_step_19 ⟨Nat.le_of_ble_eq_true rfl, Nat.le_of_ble_eq_true rfl⟩) hP hD hS hA [1, 2, 3, 4, 5, 6, 7, 8] [0] rfl rfl rfl (by decide) (fun r1 w1 H locs hp hP hD hS => ?_)
    obtain ⟨e_2, mk1, dn1, hq_3, hq_4, hq_5, h9, rfl⟩ := hp
    have h9 := h9.symm
    subst h9
    have hq_3 : gZ e_2 := hq_3
    have hq_4 : mk1 ≤ 38 := hq_4
    have hq_5 : gMach pf cf mm dn1 L nc mk1 := hq_5
    have hP : va_P D vwCl [(h0, .inr (8, [v0, v1, v2, v3, .int ld, .ref p0, .ref m0, v7, v8, v9, v10, v11])), (m0, .inr (3, [.ref ms, .int mst, .int (nI mk1), .int mm, .ref md])), (ms, .inr (7, [.ref mw])), (mw, .inl (cI, 34, .inl (gRun pf cf mm dn1 mk1))), (md, .inl (cI, 38, .inl dn1)), (p0, .inr (4, [.int (nI nc), .ref b1, .ref b2, .ref b3])), (b1, .inl (cI, 3, .inl (fun j => nI (L j)))), (b2, .inl (cI, 4, .inl cf)), (b3, .inl (cI, 192, .inl pf))] H := hP
    have hD : va_D A [(h0, .inr (8, [v0, v1, v2, v3, .int ld, .ref p0, .ref m0, v7, v8, v9, v10, v11])), (m0, .inr (3, [.ref ms, .int mst, .int (nI mk1), .int mm, .ref md])), (ms, .inr (7, [.ref mw])), (mw, .inl (cI, 34, .inl (gRun pf cf mm dn1 mk1))), (md, .inl (cI, 38, .inl dn1)), (p0, .inr (4, [.int (nI nc), .ref b1, .ref b2, .ref b3])), (b1, .inl (cI, 3, .inl (fun j => nI (L j)))), (b2, .inl (cI, 4, .inl cf)), (b3, .inl (cI, 192, .inl pf))] := hD
    have hm1 := hq_5
    refine lv_if_eq (tgt := 29) hx hb dX8_step_22 (by decide) (fun c_6 => ?_) (fun c_6 => ?_)
    · refine lv_iconst (v := 0) hx hb dX8_step_29 (by decide) ?_
      exact gx_zret (w' := [(h0, .inr (8, [v0, v1, v2, v3, .int ld, .ref p0, .ref m0, v7, v8, v9, v10, v11])), (m0, .inr (3, [.ref ms, .int mst, .int (nI mk1), .int mm, .ref md])), (ms, .inr (7, [.ref mw])), (mw, .inl (cI, 34, .inl (gRun pf cf mm dn1 mk1))), (md, .inl (cI, 38, .inl dn1)), (p0, .inr (4, [.int (nI nc), .ref b1, .ref b2, .ref b3])), (b1, .inl (cI, 3, .inl (fun j => nI (L j)))), (b2, .inl (cI, 4, .inl cf)), (b3, .inl (cI, 192, .inl pf))]) hx hb hr hlk hK hP hD hS (Nat.le_of_ble_eq_true rfl) (Nat.le_of_ble_eq_true rfl) dX8_step_30 rfl ⟨0, mk1, dn1, (gRun pf cf mm dn1 mk1), (by first | exact Or.inl rfl | exact Or.inr rfl), (by omega), (by first | exact Or.inr ⟨hm1, rfl⟩ | exact hM), rfl, rfl⟩
    · refine lv_iconst (v := 1) hx hb dX8_step_25 (by decide) ?_
      refine lv_goto (tgt := 30) hx hb dX8_step_26 (by decide) ?_
      exact gx_zret (w' := [(h0, .inr (8, [v0, v1, v2, v3, .int ld, .ref p0, .ref m0, v7, v8, v9, v10, v11])), (m0, .inr (3, [.ref ms, .int mst, .int (nI mk1), .int mm, .ref md])), (ms, .inr (7, [.ref mw])), (mw, .inl (cI, 34, .inl (gRun pf cf mm dn1 mk1))), (md, .inl (cI, 38, .inl dn1)), (p0, .inr (4, [.int (nI nc), .ref b1, .ref b2, .ref b3])), (b1, .inl (cI, 3, .inl (fun j => nI (L j)))), (b2, .inl (cI, 4, .inl cf)), (b3, .inl (cI, 192, .inl pf))]) hx hb hr hlk hK hP hD hS (Nat.le_of_ble_eq_true rfl) (Nat.le_of_ble_eq_true rfl) dX8_step_30 rfl ⟨1, mk1, dn1, (gRun pf cf mm dn1 mk1), (by first | exact Or.inl rfl | exact Or.inr rfl), (by omega), (by first | exact Or.inr ⟨hm1, rfl⟩ | exact hM), rfl, rfl⟩
def wsP_c_undo8 : List Cond := .code yX8_undo cX8_undo 1 (some .boolean) :: (([.fieldLink RX8 34 "LitmusHall" "machine" "LLitmusHall$Machine;", .fieldLink RX8 86 "LitmusHall$Machine" "stands" "Z", .fieldLink RX8 27 "LitmusHall" "program" "LLitmusHall$Program;", .methodLink RX8 122 yX3_takeBack, .instanceMethod yX3_takeBack, .selects RX3 yX3_takeBack yX3_takeBack, .initialized RX3] ++ wsX80 ++ wsX30) ++ (wsP_c_takeBack ++ []))
set_option maxRecDepth 20000 in
theorem gP_c_undo8__c_takeBack : GoodIn wsP_c_undo8 (wsV RX8 122 RX3 yX3_takeBack wsP_c_takeBack) := gw_in (pre := [.methodLink RX8 122 yX3_takeBack, .instanceMethod yX3_takeBack, .selects RX3 yX3_takeBack yX3_takeBack, .initialized RX3]) (by decide +kernel) (fun _ h => List.mem_cons_of_mem _ (List.mem_append_right _ (List.mem_append_left _ h))) gW_c_takeBack
set_option maxHeartbeats 4000000 in
set_option maxRecDepth 100000 in
theorem c_undo8 (l : Launch) (D : va_G) (cI cB cZ : ClassId) (h0 : Nat) (ld : Int32) (v0 : Value) (v1 : Value) (v2 : Value) (v3 : Value) (v7 : Value) (v8 : Value) (v9 : Value) (v10 : Value) (v11 : Value) (m0 : Nat) (ms : Nat) (mw : Nat) (md : Nat) (mst : Int32) (mk : Nat) (mm : Int32) (mf : Nat → Int32) (dn : Nat → Int32) (p0 : Nat) (b1 : Nat) (b2 : Nat) (b3 : Nat) (nc : Nat) (L : Nat → Nat) (cf : Nat → Int32) (pf : Nat → Int32) (hc : nc ≤ 3) (hL : ∀ k, k < 3 → L k ≤ 8) (hI : gG L pf 7) (hmk : mk ≤ 38) (hM : gMs mst pf cf mm dn L nc mk mf) : gMi l yX8_undo wsP_c_undo8 ({ frames := 4, cells := 0, slots := 0, locals := 113 }) D cI cB cZ [] [.ref h0] [(h0, .inr (8, [v0, v1, v2, v3, .int ld, .ref p0, .ref m0, v7, v8, v9, v10, v11])), (m0, .inr (3, [.ref ms, .int mst, .int (nI mk), .int mm, .ref md])), (ms, .inr (7, [.ref mw])), (mw, .inl (cI, 34, .inl mf)), (md, .inl (cI, 38, .inl dn)), (p0, .inr (4, [.int (nI nc), .ref b1, .ref b2, .ref b3])), (b1, .inl (cI, 3, .inl (fun j => nI (L j)))), (b2, .inl (cI, 4, .inl cf)), (b3, .inl (cI, 192, .inl pf))] (fun r9 w9 => ∃ z : Int32, ∃ mk9 : Nat, ∃ mf9 : Nat → Int32, (gZ z) ∧ (mk9 ≤ 38) ∧ (gMs mst pf cf mm dn L nc mk9 mf9) ∧ r9 = z ∧ w9 = [(h0, .inr (8, [v0, v1, v2, v3, .int ld, .ref p0, .ref m0, v7, v8, v9, v10, v11])), (m0, .inr (3, [.ref ms, .int mst, .int (nI mk9), .int mm, .ref md])), (ms, .inr (7, [.ref mw])), (mw, .inl (cI, 34, .inl mf9)), (md, .inl (cI, 38, .inl dn)), (p0, .inr (4, [.int (nI nc), .ref b1, .ref b2, .ref b3])), (b1, .inl (cI, 3, .inl (fun j => nI (L j)))), (b2, .inl (cI, 4, .inl cf)), (b3, .inl (cI, 192, .inl pf))]) := by
  refine gMi.of (cc := cX8_undo) (maxL := 1) (ret := (some .boolean)) (by decide) rfl (Nat.le_of_ble_eq_true rfl) (fun p e s m below meth c A ls hx hb hr hlk hml hts hown hin hA hP hK hD hS hN hl => ?_)
  have hown : s.vm.findClass RX8 = some m.cls := hown
  have hl : lv_has ls 1 [(0, .ref h0)] := hl
  refine lv_aload_n hx hb dX8_undo_0 rfl (lv_at hl 0 rfl) ?_
  refine va_get (D := D) (ci := 8) (v := .ref m0) (C := RX8) (T := TX8) (N := 12) hx hb hts (fun _ h => List.mem_cons_of_mem _ (List.mem_append_left _ (List.mem_append_left _ (List.mem_append_right _ h)))) hown hK hP 0 rfl rfl 6 (by decide) (hts (.fieldLink RX8 34 "LitmusHall" "machine" "LLitmusHall$Machine;") (by decide +kernel)) (fun _ h9 => h9) rfl dX8_undo_1 ?_
  refine va_get (D := D) (ci := 3) (v := .int mst) (C := RX3) (T := TX3) (N := 5) hx hb hts (fun _ h => List.mem_cons_of_mem _ (List.mem_append_left _ (List.mem_append_right _ h))) hown hK hP 1 rfl rfl 1 (by decide) (hts (.fieldLink RX8 86 "LitmusHall$Machine" "stands" "Z") (by decide +kernel)) (fun _ h9 => h9) rfl dX8_undo_4 ?_
  refine lv_if_eq (tgt := 28) hx hb dX8_undo_7 (by decide) (fun c_1 => ?_) (fun c_1 => ?_)
  · refine lv_iconst (v := 0) hx hb dX8_undo_28 (by decide) ?_
    exact gx_zret (w' := [(h0, .inr (8, [v0, v1, v2, v3, .int ld, .ref p0, .ref m0, v7, v8, v9, v10, v11])), (m0, .inr (3, [.ref ms, .int mst, .int (nI mk), .int mm, .ref md])), (ms, .inr (7, [.ref mw])), (mw, .inl (cI, 34, .inl mf)), (md, .inl (cI, 38, .inl dn)), (p0, .inr (4, [.int (nI nc), .ref b1, .ref b2, .ref b3])), (b1, .inl (cI, 3, .inl (fun j => nI (L j)))), (b2, .inl (cI, 4, .inl cf)), (b3, .inl (cI, 192, .inl pf))]) hx hb hr hlk hK hP hD hS (Nat.le_of_ble_eq_true rfl) (Nat.le_of_ble_eq_true rfl) dX8_undo_29 rfl ⟨0, mk, mf, (by first | exact Or.inl rfl | exact Or.inr rfl), (by omega), (by first | exact Or.inr ⟨hm1, rfl⟩ | exact hM), rfl, rfl⟩
  · obtain ⟨hm, rfl⟩ := hM.resolve_left c_1
    refine lv_aload_n hx hb dX8_undo_10 rfl (lv_at hl 0 rfl) ?_
    refine va_get (D := D) (ci := 8) (v := .ref m0) (C := RX8) (T := TX8) (N := 12) hx hb hts (fun _ h => List.mem_cons_of_mem _ (List.mem_append_left _ (List.mem_append_left _ (List.mem_append_right _ h)))) hown hK hP 0 rfl rfl 6 (by decide) (hts (.fieldLink RX8 34 "LitmusHall" "machine" "LLitmusHall$Machine;") (by decide +kernel)) (fun _ h9 => h9) rfl dX8_undo_11 ?_
    refine lv_aload_n hx hb dX8_undo_14 rfl (lv_at hl 0 rfl) ?_
    refine va_get (D := D) (ci := 8) (v := .ref p0) (C := RX8) (T := TX8) (N := 12) hx hb hts (fun _ h => List.mem_cons_of_mem _ (List.mem_append_left _ (List.mem_append_left _ (List.mem_append_right _ h)))) hown hK hP 0 rfl rfl 5 (by decide) (hts (.fieldLink RX8 27 "LitmusHall" "program" "LLitmusHall$Program;") (by decide +kernel)) (fun _ h9 => h9) rfl dX8_undo_15 ?_
    refine gx_goi (wc := [(m0, .inr (3, [.ref ms, .int mst, .int (nI mk), .int mm, .ref md])), (ms, .inr (7, [.ref mw])), (mw, .inl (cI, 34, .inl (gRun pf cf mm dn mk))), (md, .inl (cI, 38, .inl dn)), (p0, .inr (4, [.int (nI nc), .ref b1, .ref b2, .ref b3])), (b1, .inl (cI, 3, .inl (fun j => nI (L j)))), (b2, .inl (cI, 4, .inl cf)), (b3, .inl (cI, 192, .inl pf))]) (wr := [(h0, .inr (8, [v0, v1, v2, v3, .int ld, .ref p0, .ref m0, v7, v8, v9, v10, v11]))]) (va_runV (As := [.ref p0]) (rest := []) ⟨hx, hb, hml, hown, hts⟩ (c_takeBack l D cI cB cZ m0 ms mw md (.int mst) mk mm dn p0 b1 b2 b3 nc L cf pf (by omega) hL hI (by omega) hm _) (cwV 1 hts gP_c_undo8__c_takeBack rfl rfl rfl (by decide +kernel) ⟨Nat.le_of_ble_eq_true rfl, Nat.le_of_ble_eq_true rfl⟩) (gx_preV (ci := 3) (q0 := 0) hK gN.nil hP hD [1, 2, 3, 4, 5, 6, 7, 8] rfl rfl rfl rfl) rfl rfl hl.1 rfl (lv_room (Nat.le_of_ble_eq_true rfl)) dX8_undo_18 ⟨Nat.le_of_ble_eq_true rfl, Nat.le_of_ble_eq_true rfl⟩) hP hD hS hA [1, 2, 3, 4, 5, 6, 7, 8] [0] rfl rfl rfl (by decide) (fun r1 w1 H locs hp hP hD hS => ?_)
    obtain ⟨e_2, mk1, hq_3, hq_4, hq_5, h9, rfl⟩ := hp
    have h9 := h9.symm
    subst h9
    have hq_3 : gZ e_2 := hq_3
    have hq_4 : mk1 ≤ 38 := hq_4
    have hq_5 : gMach pf cf mm dn L nc mk1 := hq_5
    have hP : va_P D vwCl [(h0, .inr (8, [v0, v1, v2, v3, .int ld, .ref p0, .ref m0, v7, v8, v9, v10, v11])), (m0, .inr (3, [.ref ms, .int mst, .int (nI mk1), .int mm, .ref md])), (ms, .inr (7, [.ref mw])), (mw, .inl (cI, 34, .inl (gRun pf cf mm dn mk1))), (md, .inl (cI, 38, .inl dn)), (p0, .inr (4, [.int (nI nc), .ref b1, .ref b2, .ref b3])), (b1, .inl (cI, 3, .inl (fun j => nI (L j)))), (b2, .inl (cI, 4, .inl cf)), (b3, .inl (cI, 192, .inl pf))] H := hP
    have hD : va_D A [(h0, .inr (8, [v0, v1, v2, v3, .int ld, .ref p0, .ref m0, v7, v8, v9, v10, v11])), (m0, .inr (3, [.ref ms, .int mst, .int (nI mk1), .int mm, .ref md])), (ms, .inr (7, [.ref mw])), (mw, .inl (cI, 34, .inl (gRun pf cf mm dn mk1))), (md, .inl (cI, 38, .inl dn)), (p0, .inr (4, [.int (nI nc), .ref b1, .ref b2, .ref b3])), (b1, .inl (cI, 3, .inl (fun j => nI (L j)))), (b2, .inl (cI, 4, .inl cf)), (b3, .inl (cI, 192, .inl pf))] := hD
    have hm1 := hq_5
    refine lv_if_eq (tgt := 28) hx hb dX8_undo_21 (by decide) (fun c_6 => ?_) (fun c_6 => ?_)
    · refine lv_iconst (v := 0) hx hb dX8_undo_28 (by decide) ?_
      exact gx_zret (w' := [(h0, .inr (8, [v0, v1, v2, v3, .int ld, .ref p0, .ref m0, v7, v8, v9, v10, v11])), (m0, .inr (3, [.ref ms, .int mst, .int (nI mk1), .int mm, .ref md])), (ms, .inr (7, [.ref mw])), (mw, .inl (cI, 34, .inl (gRun pf cf mm dn mk1))), (md, .inl (cI, 38, .inl dn)), (p0, .inr (4, [.int (nI nc), .ref b1, .ref b2, .ref b3])), (b1, .inl (cI, 3, .inl (fun j => nI (L j)))), (b2, .inl (cI, 4, .inl cf)), (b3, .inl (cI, 192, .inl pf))]) hx hb hr hlk hK hP hD hS (Nat.le_of_ble_eq_true rfl) (Nat.le_of_ble_eq_true rfl) dX8_undo_29 rfl ⟨0, mk1, (gRun pf cf mm dn mk1), (by first | exact Or.inl rfl | exact Or.inr rfl), (by omega), (by first | exact Or.inr ⟨hm1, rfl⟩ | exact hM), rfl, rfl⟩
    · refine lv_iconst (v := 1) hx hb dX8_undo_24 (by decide) ?_
      refine lv_goto (tgt := 29) hx hb dX8_undo_25 (by decide) ?_
      exact gx_zret (w' := [(h0, .inr (8, [v0, v1, v2, v3, .int ld, .ref p0, .ref m0, v7, v8, v9, v10, v11])), (m0, .inr (3, [.ref ms, .int mst, .int (nI mk1), .int mm, .ref md])), (ms, .inr (7, [.ref mw])), (mw, .inl (cI, 34, .inl (gRun pf cf mm dn mk1))), (md, .inl (cI, 38, .inl dn)), (p0, .inr (4, [.int (nI nc), .ref b1, .ref b2, .ref b3])), (b1, .inl (cI, 3, .inl (fun j => nI (L j)))), (b2, .inl (cI, 4, .inl cf)), (b3, .inl (cI, 192, .inl pf))]) hx hb hr hlk hK hP hD hS (Nat.le_of_ble_eq_true rfl) (Nat.le_of_ble_eq_true rfl) dX8_undo_29 rfl ⟨1, mk1, (gRun pf cf mm dn mk1), (by first | exact Or.inl rfl | exact Or.inr rfl), (by omega), (by first | exact Or.inr ⟨hm1, rfl⟩ | exact hM), rfl, rfl⟩
