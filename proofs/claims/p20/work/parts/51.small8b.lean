theorem dX8_cured_0 : decode cX8_cured 0 = .ok (.aload_n 0, 1) := by decide +kernel
theorem dX8_cured_1 : decode cX8_cured 1 = .ok (.getfield 58, 3) := by decide +kernel
theorem dX8_cured_4 : decode cX8_cured 4 = .ok (.iload_n 1, 1) := by decide +kernel
theorem dX8_cured_5 : decode cX8_cured 5 = .ok (.invokevirtual 193, 3) := by decide +kernel
theorem dX8_cured_8 : decode cX8_cured 8 = .ok (.ireturn, 1) := by decide +kernel
theorem dX8_forgetFindings_0 : decode cX8_forgetFindings 0 = .ok (.aload_n 0, 1) := by decide +kernel
theorem dX8_forgetFindings_1 : decode cX8_forgetFindings 1 = .ok (.getfield 34, 3) := by decide +kernel
theorem dX8_forgetFindings_12 : decode cX8_forgetFindings 12 = .ok (.iconst 0, 1) := by decide +kernel
theorem dX8_forgetFindings_13 : decode cX8_forgetFindings 13 = .ok (.putfield 89, 3) := by decide +kernel
theorem dX8_forgetFindings_16 : decode cX8_forgetFindings 16 = .ok (.aload_n 0, 1) := by decide +kernel
theorem dX8_forgetFindings_17 : decode cX8_forgetFindings 17 = .ok (.getfield 45, 3) := by decide +kernel
theorem dX8_forgetFindings_20 : decode cX8_forgetFindings 20 = .ok (.iconst 0, 1) := by decide +kernel
theorem dX8_forgetFindings_21 : decode cX8_forgetFindings 21 = .ok (.putfield 89, 3) := by decide +kernel
theorem dX8_forgetFindings_24 : decode cX8_forgetFindings 24 = .ok (.aload_n 0, 1) := by decide +kernel
theorem dX8_forgetFindings_25 : decode cX8_forgetFindings 25 = .ok (.getfield 51, 3) := by decide +kernel
theorem dX8_forgetFindings_28 : decode cX8_forgetFindings 28 = .ok (.iconst 0, 1) := by decide +kernel
theorem dX8_forgetFindings_29 : decode cX8_forgetFindings 29 = .ok (.putfield 92, 3) := by decide +kernel
theorem dX8_forgetFindings_32 : decode cX8_forgetFindings 32 = .ok (.aload_n 0, 1) := by decide +kernel
theorem dX8_forgetFindings_33 : decode cX8_forgetFindings 33 = .ok (.getfield 58, 3) := by decide +kernel
theorem dX8_forgetFindings_36 : decode cX8_forgetFindings 36 = .ok (.invokevirtual 93, 3) := by decide +kernel
theorem dX8_forgetFindings_39 : decode cX8_forgetFindings 39 = .ok (.return_, 1) := by decide +kernel
theorem dX8_forgetFindings_4 : decode cX8_forgetFindings 4 = .ok (.iconst 0, 1) := by decide +kernel
theorem dX8_forgetFindings_5 : decode cX8_forgetFindings 5 = .ok (.putfield 86, 3) := by decide +kernel
theorem dX8_forgetFindings_8 : decode cX8_forgetFindings 8 = .ok (.aload_n 0, 1) := by decide +kernel
theorem dX8_forgetFindings_9 : decode cX8_forgetFindings 9 = .ok (.getfield 41, 3) := by decide +kernel
theorem dX8_store_0 : decode cX8_store 0 = .ok (.aload_n 0, 1) := by decide +kernel
theorem dX8_store_1 : decode cX8_store 1 = .ok (.getfield 34, 3) := by decide +kernel
theorem dX8_store_10 : decode cX8_store 10 = .ok (.aload_n 0, 1) := by decide +kernel
theorem dX8_store_11 : decode cX8_store 11 = .ok (.iload_n 1, 1) := by decide +kernel
theorem dX8_store_12 : decode cX8_store 12 = .ok (.invokevirtual 96, 3) := by decide +kernel
theorem dX8_store_15 : decode cX8_store 15 = .ok (.ifCond .eq 22, 3) := by decide +kernel
theorem dX8_store_18 : decode cX8_store 18 = .ok (.iload_n 2, 1) := by decide +kernel
theorem dX8_store_19 : decode cX8_store 19 = .ok (.ifCond .lt 18, 3) := by decide +kernel
theorem dX8_store_22 : decode cX8_store 22 = .ok (.iload_n 2, 1) := by decide +kernel
theorem dX8_store_23 : decode cX8_store 23 = .ok (.aload_n 0, 1) := by decide +kernel
theorem dX8_store_24 : decode cX8_store 24 = .ok (.getfield 34, 3) := by decide +kernel
theorem dX8_store_27 : decode cX8_store 27 = .ok (.getfield 126, 3) := by decide +kernel
theorem dX8_store_30 : decode cX8_store 30 = .ok (.iload_n 1, 1) := by decide +kernel
theorem dX8_store_31 : decode cX8_store 31 = .ok (.invokevirtual 139, 3) := by decide +kernel
theorem dX8_store_34 : decode cX8_store 34 = .ok (.if_icmp .lt 5, 3) := by decide +kernel
theorem dX8_store_37 : decode cX8_store 37 = .ok (.iconst (-1), 1) := by decide +kernel
theorem dX8_store_38 : decode cX8_store 38 = .ok (.ireturn, 1) := by decide +kernel
theorem dX8_store_39 : decode cX8_store 39 = .ok (.iload_n 3, 1) := by decide +kernel
theorem dX8_store_4 : decode cX8_store 4 = .ok (.getfield 86, 3) := by decide +kernel
theorem dX8_store_40 : decode cX8_store 40 = .ok (.ifCond .ne 16, 3) := by decide +kernel
theorem dX8_store_43 : decode cX8_store 43 = .ok (.aload_n 0, 1) := by decide +kernel
theorem dX8_store_44 : decode cX8_store 44 = .ok (.getfield 34, 3) := by decide +kernel
theorem dX8_store_47 : decode cX8_store 47 = .ok (.getfield 126, 3) := by decide +kernel
theorem dX8_store_50 : decode cX8_store 50 = .ok (.iload_n 1, 1) := by decide +kernel
theorem dX8_store_51 : decode cX8_store 51 = .ok (.iload_n 2, 1) := by decide +kernel
theorem dX8_store_52 : decode cX8_store 52 = .ok (.invokevirtual 142, 3) := by decide +kernel
theorem dX8_store_55 : decode cX8_store 55 = .ok (.ireturn, 1) := by decide +kernel
theorem dX8_store_56 : decode cX8_store 56 = .ok (.iload_n 3, 1) := by decide +kernel
theorem dX8_store_57 : decode cX8_store 57 = .ok (.iconst 1, 1) := by decide +kernel
theorem dX8_store_58 : decode cX8_store 58 = .ok (.if_icmp .ne 18, 3) := by decide +kernel
theorem dX8_store_61 : decode cX8_store 61 = .ok (.aload_n 0, 1) := by decide +kernel
theorem dX8_store_62 : decode cX8_store 62 = .ok (.getfield 34, 3) := by decide +kernel
theorem dX8_store_65 : decode cX8_store 65 = .ok (.getfield 126, 3) := by decide +kernel
theorem dX8_store_68 : decode cX8_store 68 = .ok (.iload_n 1, 1) := by decide +kernel
theorem dX8_store_69 : decode cX8_store 69 = .ok (.iload_n 2, 1) := by decide +kernel
theorem dX8_store_7 : decode cX8_store 7 = .ok (.ifCond .eq 30, 3) := by decide +kernel
theorem dX8_store_70 : decode cX8_store 70 = .ok (.invokevirtual 146, 3) := by decide +kernel
theorem dX8_store_73 : decode cX8_store 73 = .ok (.goto 4, 3) := by decide +kernel
theorem dX8_store_76 : decode cX8_store 76 = .ok (.iconst (-1), 1) := by decide +kernel
theorem dX8_store_77 : decode cX8_store 77 = .ok (.ireturn, 1) := by decide +kernel
theorem gW_c_rowSize : wsP_c_rowSize.all goodWord = true := by decide +kernel
theorem gW_c_rowInt : wsP_c_rowInt.all goodWord = true := by decide +kernel
theorem gW_c_toldPlace : wsP_c_toldPlace.all goodWord = true := by decide +kernel
def wsP_c_cured8 : List Cond := .code yX8_cured cX8_cured 2 (some .int) :: (([.fieldLink RX8 58 "LitmusHall" "theCure" "LLitmusHall$Cure;", .methodLink RX8 193 yX0_toldPlace, .instanceMethod yX0_toldPlace, .selects RX0 yX0_toldPlace yX0_toldPlace, .initialized RX0] ++ wsX80) ++ (wsP_c_toldPlace ++ []))
set_option maxRecDepth 20000 in
theorem gP_c_cured8__c_toldPlace : GoodIn wsP_c_cured8 (wsV RX8 193 RX0 yX0_toldPlace wsP_c_toldPlace) := gw_in (pre := [.methodLink RX8 193 yX0_toldPlace, .instanceMethod yX0_toldPlace, .selects RX0 yX0_toldPlace yX0_toldPlace, .initialized RX0]) (by decide +kernel) (fun _ h => List.mem_cons_of_mem _ (List.mem_append_right _ (List.mem_append_left _ h))) gW_c_toldPlace
set_option maxHeartbeats 4000000 in
set_option maxRecDepth 100000 in
theorem c_cured8 (l : Launch) (D : va_G) (cI cB cZ : ClassId) (h0 : Nat) (cu : Nat) (a5 : Nat) (v0 : Value) (v1 : Value) (v2 : Value) (v3 : Value) (v4 : Value) (v5 : Value) (v6 : Value) (v7 : Value) (v8 : Value) (v9 : Value) (v10 : Value) (w0 : Value) (w1 : Value) (w2 : Value) (w3 : Value) (ts : Int32) (tf : Nat → Int32) (x : Int32)  : gMi l yX8_cured wsP_c_cured8 ({ frames := 1, cells := 0, slots := 0, locals := 21 }) D cI cB cZ [] [.ref h0, .int x] [(h0, .inr (8, [v0, v1, v2, v3, v4, v5, v6, v7, v8, v9, v10, .ref cu])), (cu, .inr (0, [w0, w1, w2, w3, .int ts, .ref a5])), (a5, .inl (cI, 2, .inl tf))] (fun r9 w9 => ∃ z : Int32, r9 = z ∧ w9 = [(h0, .inr (8, [v0, v1, v2, v3, v4, v5, v6, v7, v8, v9, v10, .ref cu])), (cu, .inr (0, [w0, w1, w2, w3, .int ts, .ref a5])), (a5, .inl (cI, 2, .inl tf))]) := by
  refine gMi.of (cc := cX8_cured) (maxL := 2) (ret := (some .int)) (by decide) rfl (Nat.le_of_ble_eq_true rfl) (fun p e s m below meth c A ls hx hb hr hlk hml hts hown hin hA hP hK hD hS hN hl => ?_)
  have hown : s.vm.findClass RX8 = some m.cls := hown
  have hl : lv_has ls 2 [(0, .ref h0), (1, .int x)] := hl
  refine lv_aload_n hx hb dX8_cured_0 rfl (lv_at hl 0 rfl) ?_
  refine va_get (D := D) (ci := 8) (v := .ref cu) (C := RX8) (T := TX8) (N := 12) hx hb hts (fun _ h => List.mem_cons_of_mem _ (List.mem_append_left _ (List.mem_append_right _ h))) hown hK hP 0 rfl rfl 11 (by decide) (hts (.fieldLink RX8 58 "LitmusHall" "theCure" "LLitmusHall$Cure;") (by decide +kernel)) (fun _ h9 => h9) rfl dX8_cured_1 ?_
  refine lv_iload_n hx hb dX8_cured_4 rfl (lv_at hl 1 rfl) ?_
  refine gx_goi (wc := [(cu, .inr (0, [w0, w1, w2, w3, .int ts, .ref a5])), (a5, .inl (cI, 2, .inl tf))]) (wr := [(h0, .inr (8, [v0, v1, v2, v3, v4, v5, v6, v7, v8, v9, v10, .ref cu]))]) (va_runV (As := [.int x]) (rest := []) ⟨hx, hb, hml, hown, hts⟩ (c_toldPlace l D cI cB cZ cu a5 (w0) (w1) (w2) (w3) ts tf x _) (cwV 1 hts gP_c_cured8__c_toldPlace rfl rfl rfl (by decide +kernel) ⟨Nat.le_of_ble_eq_true rfl, Nat.le_of_ble_eq_true rfl⟩) (gx_preV (ci := 0) (q0 := 0) hK gN.nil hP hD [1, 2] rfl rfl rfl rfl) rfl rfl hl.1 rfl (lv_room (Nat.le_of_ble_eq_true rfl)) dX8_cured_5 ⟨Nat.le_of_ble_eq_true rfl, Nat.le_of_ble_eq_true rfl⟩) hP hD hS hA [1, 2] [0] rfl rfl rfl (by decide) (fun r1 w1 H locs hp hP hD hS => ?_)
  obtain ⟨e_1, h9, rfl⟩ := hp
  have h9 := h9.symm
  subst h9
  exact gx_iret (w' := [(h0, .inr (8, [v0, v1, v2, v3, v4, v5, v6, v7, v8, v9, v10, .ref cu])), (cu, .inr (0, [w0, w1, w2, w3, .int ts, .ref a5])), (a5, .inl (cI, 2, .inl tf))]) hx hb hr hlk hK hP hD hS (Nat.le_of_ble_eq_true rfl) (Nat.le_of_ble_eq_true rfl) dX8_cured_8 ⟨e_1, rfl, rfl⟩
theorem gW_c_forgetSearch : wsP_c_forgetSearch.all goodWord = true := by decide +kernel
def wsP_c_forgetFindings : List Cond := .code yX8_forgetFindings cX8_forgetFindings 1 none :: (([.fieldLink RX8 34 "LitmusHall" "machine" "LLitmusHall$Machine;", .fieldLink RX8 86 "LitmusHall$Machine" "stands" "Z", .fieldLink RX8 41 "LitmusHall" "withRows" "LLitmusHall$Findings;", .fieldLink RX8 89 "LitmusHall$Findings" "known" "Z", .fieldLink RX8 45 "LitmusHall" "withoutRows" "LLitmusHall$Findings;", .fieldLink RX8 51 "LitmusHall" "theRace" "LLitmusHall$Race;", .fieldLink RX8 92 "LitmusHall$Race" "known" "Z", .fieldLink RX8 58 "LitmusHall" "theCure" "LLitmusHall$Cure;", .methodLink RX8 93 yX0_forgetSearch, .instanceMethod yX0_forgetSearch, .selects RX0 yX0_forgetSearch yX0_forgetSearch, .initialized RX0] ++ wsX80 ++ wsX30 ++ wsX20 ++ wsX50) ++ (wsP_c_forgetSearch ++ []))
theorem gW_c_forgetFindings : wsP_c_forgetFindings.all goodWord = true := by unfold wsP_c_forgetFindings; exact gw_mk (by decide +kernel) (gw_app gW_c_forgetSearch rfl)
set_option maxRecDepth 20000 in
theorem gP_c_forgetFindings__c_forgetSearch : GoodIn wsP_c_forgetFindings (wsV RX8 93 RX0 yX0_forgetSearch wsP_c_forgetSearch) := gw_in (pre := [.methodLink RX8 93 yX0_forgetSearch, .instanceMethod yX0_forgetSearch, .selects RX0 yX0_forgetSearch yX0_forgetSearch, .initialized RX0]) (by decide +kernel) (fun _ h => List.mem_cons_of_mem _ (List.mem_append_right _ (List.mem_append_left _ h))) gW_c_forgetSearch
set_option maxHeartbeats 4000000 in
set_option maxRecDepth 100000 in
theorem c_forgetFindings (l : Launch) (D : va_G) (cI cB cZ : ClassId) (h0 : Nat) (m0 : Nat) (oA : Nat) (oB : Nat) (ra : Nat) (cu : Nat) (v0 : Value) (v1 : Value) (v2 : Value) (v3 : Value) (v4 : Value) (v5 : Value) (v7 : Value) (q0 : Value) (q2 : Value) (q3 : Value) (q4 : Value) (d1 : Value) (d2 : Value) (d3 : Value) (d4 : Value) (f1 : Value) (f2 : Value) (f3 : Value) (f4 : Value) (t1 : Value) (t2 : Value) (t3 : Value) (t4 : Value) (t5 : Value) (t6 : Value) (u0 : Value) (u3 : Value) (u4 : Value) (u5 : Value) (y0 : Int32) (y1 : Int32) (y2 : Int32) (y3 : Int32) (y4 : Int32) (y5 : Int32)  : gMv l yX8_forgetFindings wsP_c_forgetFindings ({ frames := 1, cells := 0, slots := 0, locals := 20 }) D cI cB cZ [] [.ref h0] [(h0, .inr (8, [v0, v1, v2, v3, v4, v5, .ref m0, v7, .ref oA, .ref oB, .ref ra, .ref cu])), (m0, .inr (3, [q0, .int y0, q2, q3, q4])), (oA, .inr (2, [.int y1, d1, d2, d3, d4])), (oB, .inr (2, [.int y2, f1, f2, f3, f4])), (ra, .inr (5, [.int y3, t1, t2, t3, t4, t5, t6])), (cu, .inr (0, [u0, .int y4, .int y5, u3, u4, u5]))] (fun w9 => w9 = [(h0, .inr (8, [v0, v1, v2, v3, v4, v5, .ref m0, v7, .ref oA, .ref oB, .ref ra, .ref cu])), (m0, .inr (3, [q0, .int 0, q2, q3, q4])), (oA, .inr (2, [.int 0, d1, d2, d3, d4])), (oB, .inr (2, [.int 0, f1, f2, f3, f4])), (ra, .inr (5, [.int 0, t1, t2, t3, t4, t5, t6])), (cu, .inr (0, [u0, .int 0, .int (-1), u3, u4, u5]))]) := by
  refine gMv.of (cc := cX8_forgetFindings) (maxL := 1) (ret := none) (by decide) rfl (Nat.le_of_ble_eq_true rfl) (fun p e s m below meth c A ls hx hb hr hlk hml hts hown hin hA hP hK hD hS hN hl => ?_)
  have hown : s.vm.findClass RX8 = some m.cls := hown
  have hl : lv_has ls 1 [(0, .ref h0)] := hl
  refine lv_aload_n hx hb dX8_forgetFindings_0 rfl (lv_at hl 0 rfl) ?_
  refine va_get (D := D) (ci := 8) (v := .ref m0) (C := RX8) (T := TX8) (N := 12) hx hb hts (fun _ h => List.mem_cons_of_mem _ (List.mem_append_left _ (List.mem_append_left _ (List.mem_append_left _ (List.mem_append_left _ (List.mem_append_right _ h)))))) hown hK hP 0 rfl rfl 6 (by decide) (hts (.fieldLink RX8 34 "LitmusHall" "machine" "LLitmusHall$Machine;") (by decide +kernel)) (fun _ h9 => h9) rfl dX8_forgetFindings_1 ?_
  refine lv_iconst (v := 0) hx hb dX8_forgetFindings_4 (by decide) ?_
  refine va_put (D := D) (ci := 3) (v := .int 0) (ty := .boolean) (C := RX3) (T := TX3) (N := 5) hx hb hts (fun _ h => List.mem_cons_of_mem _ (List.mem_append_left _ (List.mem_append_left _ (List.mem_append_left _ (List.mem_append_right _ h))))) tyX3 tyX3_ok nmX3 hown hK hP hD hS 1 rfl rfl 1 (by decide) (hts (.fieldLink RX8 86 "LitmusHall$Machine" "stands" "Z") (by decide +kernel)) (fun _ h9 => h9) rfl (by decide +kernel) rfl rfl (Nat.le_of_ble_eq_true rfl) dX8_forgetFindings_5 (fun H locs hP hD hS => ?_)
  have hP : va_P D vwCl [(h0, .inr (8, [v0, v1, v2, v3, v4, v5, .ref m0, v7, .ref oA, .ref oB, .ref ra, .ref cu])), (m0, .inr (3, [q0, .int 0, q2, q3, q4])), (oA, .inr (2, [.int y1, d1, d2, d3, d4])), (oB, .inr (2, [.int y2, f1, f2, f3, f4])), (ra, .inr (5, [.int y3, t1, t2, t3, t4, t5, t6])), (cu, .inr (0, [u0, .int y4, .int y5, u3, u4, u5]))] H := hP
  have hD : va_D A [(h0, .inr (8, [v0, v1, v2, v3, v4, v5, .ref m0, v7, .ref oA, .ref oB, .ref ra, .ref cu])), (m0, .inr (3, [q0, .int 0, q2, q3, q4])), (oA, .inr (2, [.int y1, d1, d2, d3, d4])), (oB, .inr (2, [.int y2, f1, f2, f3, f4])), (ra, .inr (5, [.int y3, t1, t2, t3, t4, t5, t6])), (cu, .inr (0, [u0, .int y4, .int y5, u3, u4, u5]))] := hD
  refine lv_aload_n hx hb dX8_forgetFindings_8 rfl (lv_at hl 0 rfl) ?_
  refine va_get (D := D) (ci := 8) (v := .ref oA) (C := RX8) (T := TX8) (N := 12) hx hb hts (fun _ h => List.mem_cons_of_mem _ (List.mem_append_left _ (List.mem_append_left _ (List.mem_append_left _ (List.mem_append_left _ (List.mem_append_right _ h)))))) hown hK hP 0 rfl rfl 8 (by decide) (hts (.fieldLink RX8 41 "LitmusHall" "withRows" "LLitmusHall$Findings;") (by decide +kernel)) (fun _ h9 => h9) rfl dX8_forgetFindings_9 ?_
  refine lv_iconst (v := 0) hx hb dX8_forgetFindings_12 (by decide) ?_
  refine va_put (D := D) (ci := 2) (v := .int 0) (ty := .boolean) (C := RX2) (T := TX2) (N := 5) hx hb hts (fun _ h => List.mem_cons_of_mem _ (List.mem_append_left _ (List.mem_append_left _ (List.mem_append_right _ h)))) tyX2 tyX2_ok nmX2 hown hK hP hD hS 2 rfl rfl 0 (by decide) (hts (.fieldLink RX8 89 "LitmusHall$Findings" "known" "Z") (by decide +kernel)) (fun _ h9 => h9) rfl (by decide +kernel) rfl rfl (Nat.le_of_ble_eq_true rfl) dX8_forgetFindings_13 (fun H locs hP hD hS => ?_)
  have hP : va_P D vwCl [(h0, .inr (8, [v0, v1, v2, v3, v4, v5, .ref m0, v7, .ref oA, .ref oB, .ref ra, .ref cu])), (m0, .inr (3, [q0, .int 0, q2, q3, q4])), (oA, .inr (2, [.int 0, d1, d2, d3, d4])), (oB, .inr (2, [.int y2, f1, f2, f3, f4])), (ra, .inr (5, [.int y3, t1, t2, t3, t4, t5, t6])), (cu, .inr (0, [u0, .int y4, .int y5, u3, u4, u5]))] H := hP
  have hD : va_D A [(h0, .inr (8, [v0, v1, v2, v3, v4, v5, .ref m0, v7, .ref oA, .ref oB, .ref ra, .ref cu])), (m0, .inr (3, [q0, .int 0, q2, q3, q4])), (oA, .inr (2, [.int 0, d1, d2, d3, d4])), (oB, .inr (2, [.int y2, f1, f2, f3, f4])), (ra, .inr (5, [.int y3, t1, t2, t3, t4, t5, t6])), (cu, .inr (0, [u0, .int y4, .int y5, u3, u4, u5]))] := hD
  refine lv_aload_n hx hb dX8_forgetFindings_16 rfl (lv_at hl 0 rfl) ?_
  refine va_get (D := D) (ci := 8) (v := .ref oB) (C := RX8) (T := TX8) (N := 12) hx hb hts (fun _ h => List.mem_cons_of_mem _ (List.mem_append_left _ (List.mem_append_left _ (List.mem_append_left _ (List.mem_append_left _ (List.mem_append_right _ h)))))) hown hK hP 0 rfl rfl 9 (by decide) (hts (.fieldLink RX8 45 "LitmusHall" "withoutRows" "LLitmusHall$Findings;") (by decide +kernel)) (fun _ h9 => h9) rfl dX8_forgetFindings_17 ?_
  refine lv_iconst (v := 0) hx hb dX8_forgetFindings_20 (by decide) ?_
  refine va_put (D := D) (ci := 2) (v := .int 0) (ty := .boolean) (C := RX2) (T := TX2) (N := 5) hx hb hts (fun _ h => List.mem_cons_of_mem _ (List.mem_append_left _ (List.mem_append_left _ (List.mem_append_right _ h)))) tyX2 tyX2_ok nmX2 hown hK hP hD hS 3 rfl rfl 0 (by decide) (hts (.fieldLink RX8 89 "LitmusHall$Findings" "known" "Z") (by decide +kernel)) (fun _ h9 => h9) rfl (by decide +kernel) rfl rfl (Nat.le_of_ble_eq_true rfl) dX8_forgetFindings_21 (fun H locs hP hD hS => ?_)
  have hP : va_P D vwCl [(h0, .inr (8, [v0, v1, v2, v3, v4, v5, .ref m0, v7, .ref oA, .ref oB, .ref ra, .ref cu])), (m0, .inr (3, [q0, .int 0, q2, q3, q4])), (oA, .inr (2, [.int 0, d1, d2, d3, d4])), (oB, .inr (2, [.int 0, f1, f2, f3, f4])), (ra, .inr (5, [.int y3, t1, t2, t3, t4, t5, t6])), (cu, .inr (0, [u0, .int y4, .int y5, u3, u4, u5]))] H := hP
  have hD : va_D A [(h0, .inr (8, [v0, v1, v2, v3, v4, v5, .ref m0, v7, .ref oA, .ref oB, .ref ra, .ref cu])), (m0, .inr (3, [q0, .int 0, q2, q3, q4])), (oA, .inr (2, [.int 0, d1, d2, d3, d4])), (oB, .inr (2, [.int 0, f1, f2, f3, f4])), (ra, .inr (5, [.int y3, t1, t2, t3, t4, t5, t6])), (cu, .inr (0, [u0, .int y4, .int y5, u3, u4, u5]))] := hD
  refine lv_aload_n hx hb dX8_forgetFindings_24 rfl (lv_at hl 0 rfl) ?_
  refine va_get (D := D) (ci := 8) (v := .ref ra) (C := RX8) (T := TX8) (N := 12) hx hb hts (fun _ h => List.mem_cons_of_mem _ (List.mem_append_left _ (List.mem_append_left _ (List.mem_append_left _ (List.mem_append_left _ (List.mem_append_right _ h)))))) hown hK hP 0 rfl rfl 10 (by decide) (hts (.fieldLink RX8 51 "LitmusHall" "theRace" "LLitmusHall$Race;") (by decide +kernel)) (fun _ h9 => h9) rfl dX8_forgetFindings_25 ?_
  refine lv_iconst (v := 0) hx hb dX8_forgetFindings_28 (by decide) ?_
  refine va_put (D := D) (ci := 5) (v := .int 0) (ty := .boolean) (C := RX5) (T := TX5) (N := 7) hx hb hts (fun _ h => List.mem_cons_of_mem _ (List.mem_append_left _ (List.mem_append_right _ h))) tyX5 tyX5_ok nmX5 hown hK hP hD hS 4 rfl rfl 0 (by decide) (hts (.fieldLink RX8 92 "LitmusHall$Race" "known" "Z") (by decide +kernel)) (fun _ h9 => h9) rfl (by decide +kernel) rfl rfl (Nat.le_of_ble_eq_true rfl) dX8_forgetFindings_29 (fun H locs hP hD hS => ?_)
  have hP : va_P D vwCl [(h0, .inr (8, [v0, v1, v2, v3, v4, v5, .ref m0, v7, .ref oA, .ref oB, .ref ra, .ref cu])), (m0, .inr (3, [q0, .int 0, q2, q3, q4])), (oA, .inr (2, [.int 0, d1, d2, d3, d4])), (oB, .inr (2, [.int 0, f1, f2, f3, f4])), (ra, .inr (5, [.int 0, t1, t2, t3, t4, t5, t6])), (cu, .inr (0, [u0, .int y4, .int y5, u3, u4, u5]))] H := hP
  have hD : va_D A [(h0, .inr (8, [v0, v1, v2, v3, v4, v5, .ref m0, v7, .ref oA, .ref oB, .ref ra, .ref cu])), (m0, .inr (3, [q0, .int 0, q2, q3, q4])), (oA, .inr (2, [.int 0, d1, d2, d3, d4])), (oB, .inr (2, [.int 0, f1, f2, f3, f4])), (ra, .inr (5, [.int 0, t1, t2, t3, t4, t5, t6])), (cu, .inr (0, [u0, .int y4, .int y5, u3, u4, u5]))] := hD
  refine lv_aload_n hx hb dX8_forgetFindings_32 rfl (lv_at hl 0 rfl) ?_
  refine va_get (D := D) (ci := 8) (v := .ref cu) (C := RX8) (T := TX8) (N := 12) hx hb hts (fun _ h => List.mem_cons_of_mem _ (List.mem_append_left _ (List.mem_append_left _ (List.mem_append_left _ (List.mem_append_left _ (List.mem_append_right _ h)))))) hown hK hP 0 rfl rfl 11 (by decide) (hts (.fieldLink RX8 58 "LitmusHall" "theCure" "LLitmusHall$Cure;") (by decide +kernel)) (fun _ h9 => h9) rfl dX8_forgetFindings_33 ?_
  refine gx_gov (wc := [(cu, .inr (0, [u0, .int y4, .int y5, u3, u4, u5]))]) (wr := [(h0, .inr (8, [v0, v1, v2, v3, v4, v5, .ref m0, v7, .ref oA, .ref oB, .ref ra, .ref cu])), (m0, .inr (3, [q0, .int 0, q2, q3, q4])), (oA, .inr (2, [.int 0, d1, d2, d3, d4])), (oB, .inr (2, [.int 0, f1, f2, f3, f4])), (ra, .inr (5, [.int 0, t1, t2, t3, t4, t5, t6]))]) (va_runV (As := []) (rest := []) ⟨hx, hb, hml, hown, hts⟩ (c_forgetSearch l D cI cB cZ cu (u0) (.int y4) (.int y5) (u3) (u4) (u5) _) (cwV 0 hts gP_c_forgetFindings__c_forgetSearch rfl rfl rfl (by decide +kernel) ⟨Nat.le_of_ble_eq_true rfl, Nat.le_of_ble_eq_true rfl⟩) (gx_preV (ci := 0) (q0 := 0) hK gN.nil hP hD [5] rfl rfl rfl rfl) rfl rfl hl.1 rfl (lv_room (Nat.le_of_ble_eq_true rfl)) dX8_forgetFindings_36 ⟨Nat.le_of_ble_eq_true rfl, Nat.le_of_ble_eq_true rfl⟩) hP hD hS hA [5] [0, 1, 2, 3, 4] rfl rfl rfl (by decide) (fun w1 H locs hp hP hD hS => ?_)
  obtain ⟨rfl⟩ := hp
  exact gx_vret (w' := [(h0, .inr (8, [v0, v1, v2, v3, v4, v5, .ref m0, v7, .ref oA, .ref oB, .ref ra, .ref cu])), (m0, .inr (3, [q0, .int 0, q2, q3, q4])), (oA, .inr (2, [.int 0, d1, d2, d3, d4])), (oB, .inr (2, [.int 0, f1, f2, f3, f4])), (ra, .inr (5, [.int 0, t1, t2, t3, t4, t5, t6])), (cu, .inr (0, [u0, .int 0, .int (-1), u3, u4, u5]))]) hx hb hr hlk hK hP hD hS (Nat.le_of_ble_eq_true rfl) (Nat.le_of_ble_eq_true rfl) dX8_forgetFindings_39 rfl
