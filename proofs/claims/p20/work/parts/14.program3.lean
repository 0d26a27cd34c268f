theorem dX0_forgetSearch_0 : decode cX0_forgetSearch 0 = .ok (.aload_n 0, 1) := by decide +kernel
theorem dX0_forgetSearch_1 : decode cX0_forgetSearch 1 = .ok (.iconst 0, 1) := by decide +kernel
theorem dX0_forgetSearch_10 : decode cX0_forgetSearch 10 = .ok (.return_, 1) := by decide +kernel
theorem dX0_forgetSearch_2 : decode cX0_forgetSearch 2 = .ok (.putfield 29, 3) := by decide +kernel
theorem dX0_forgetSearch_5 : decode cX0_forgetSearch 5 = .ok (.aload_n 0, 1) := by decide +kernel
theorem dX0_forgetSearch_6 : decode cX0_forgetSearch 6 = .ok (.iconst (-1), 1) := by decide +kernel
theorem dX0_forgetSearch_7 : decode cX0_forgetSearch 7 = .ok (.putfield 18, 3) := by decide +kernel
theorem dX4_copyIns_0 : decode cX4_copyIns 0 = .ok (.iload_n 2, 1) := by decide +kernel
theorem dX4_copyIns_1 : decode cX4_copyIns 1 = .ok (.iload_n 3, 1) := by decide +kernel
theorem dX4_copyIns_10 : decode cX4_copyIns 10 = .ok (.getfield 18, 3) := by decide +kernel
theorem dX4_copyIns_13 : decode cX4_copyIns 13 = .ok (.iload 5, 2) := by decide +kernel
theorem dX4_copyIns_15 : decode cX4_copyIns 15 = .ok (.iconst 0, 1) := by decide +kernel
theorem dX4_copyIns_16 : decode cX4_copyIns 16 = .ok (.iadd, 1) := by decide +kernel
theorem dX4_copyIns_17 : decode cX4_copyIns 17 = .ok (.iaload, 1) := by decide +kernel
theorem dX4_copyIns_18 : decode cX4_copyIns 18 = .ok (.invokevirtual 53, 3) := by decide +kernel
theorem dX4_copyIns_2 : decode cX4_copyIns 2 = .ok (.invokestatic 31, 3) := by decide +kernel
theorem dX4_copyIns_21 : decode cX4_copyIns 21 = .ok (.istore 6, 2) := by decide +kernel
theorem dX4_copyIns_23 : decode cX4_copyIns 23 = .ok (.aload_n 1, 1) := by decide +kernel
theorem dX4_copyIns_24 : decode cX4_copyIns 24 = .ok (.getfield 18, 3) := by decide +kernel
theorem dX4_copyIns_27 : decode cX4_copyIns 27 = .ok (.iload 5, 2) := by decide +kernel
theorem dX4_copyIns_29 : decode cX4_copyIns 29 = .ok (.aload_n 0, 1) := by decide +kernel
theorem dX4_copyIns_30 : decode cX4_copyIns 30 = .ok (.getfield 18, 3) := by decide +kernel
theorem dX4_copyIns_33 : decode cX4_copyIns 33 = .ok (.iload 6, 2) := by decide +kernel
theorem dX4_copyIns_35 : decode cX4_copyIns 35 = .ok (.bipush 8, 2) := by decide +kernel
theorem dX4_copyIns_37 : decode cX4_copyIns 37 = .ok (.invokestatic 43, 3) := by decide +kernel
theorem dX4_copyIns_40 : decode cX4_copyIns 40 = .ok (.aload_n 0, 1) := by decide +kernel
theorem dX4_copyIns_41 : decode cX4_copyIns 41 = .ok (.getfield 18, 3) := by decide +kernel
theorem dX4_copyIns_44 : decode cX4_copyIns 44 = .ok (.iload 6, 2) := by decide +kernel
theorem dX4_copyIns_46 : decode cX4_copyIns 46 = .ok (.bipush 7, 2) := by decide +kernel
theorem dX4_copyIns_48 : decode cX4_copyIns 48 = .ok (.iadd, 1) := by decide +kernel
theorem dX4_copyIns_49 : decode cX4_copyIns 49 = .ok (.iload 4, 2) := by decide +kernel
theorem dX4_copyIns_5 : decode cX4_copyIns 5 = .ok (.istore 5, 2) := by decide +kernel
theorem dX4_copyIns_51 : decode cX4_copyIns 51 = .ok (.iastore, 1) := by decide +kernel
theorem dX4_copyIns_52 : decode cX4_copyIns 52 = .ok (.return_, 1) := by decide +kernel
theorem dX4_copyIns_7 : decode cX4_copyIns 7 = .ok (.aload_n 0, 1) := by decide +kernel
theorem dX4_copyIns_8 : decode cX4_copyIns 8 = .ok (.iload_n 2, 1) := by decide +kernel
theorem dX4_copyIns_9 : decode cX4_copyIns 9 = .ok (.aload_n 1, 1) := by decide +kernel
theorem dX4_placeOf_0 : decode cX4_placeOf 0 = .ok (.iload_n 1, 1) := by decide +kernel
theorem dX4_placeOf_1 : decode cX4_placeOf 1 = .ok (.istore_n 2, 1) := by decide +kernel
theorem dX4_placeOf_12 : decode cX4_placeOf 12 = .ok (.iconst 0, 1) := by decide +kernel
theorem dX4_placeOf_13 : decode cX4_placeOf 13 = .ok (.aload_n 0, 1) := by decide +kernel
theorem dX4_placeOf_14 : decode cX4_placeOf 14 = .ok (.getfield 9, 3) := by decide +kernel
theorem dX4_placeOf_17 : decode cX4_placeOf 17 = .ok (.iload_n 3, 1) := by decide +kernel
theorem dX4_placeOf_18 : decode cX4_placeOf 18 = .ok (.iaload, 1) := by decide +kernel
theorem dX4_placeOf_19 : decode cX4_placeOf 19 = .ok (.iconst 1, 1) := by decide +kernel
theorem dX4_placeOf_2 : decode cX4_placeOf 2 = .ok (.iconst 0, 1) := by decide +kernel
theorem dX4_placeOf_20 : decode cX4_placeOf 20 = .ok (.isub, 1) := by decide +kernel
theorem dX4_placeOf_21 : decode cX4_placeOf 21 = .ok (.invokestatic 35, 3) := by decide +kernel
theorem dX4_placeOf_24 : decode cX4_placeOf 24 = .ok (.istore 4, 2) := by decide +kernel
theorem dX4_placeOf_26 : decode cX4_placeOf 26 = .ok (.iload_n 2, 1) := by decide +kernel
theorem dX4_placeOf_27 : decode cX4_placeOf 27 = .ok (.iload 4, 2) := by decide +kernel
theorem dX4_placeOf_29 : decode cX4_placeOf 29 = .ok (.if_icmp .ge 12, 3) := by decide +kernel
theorem dX4_placeOf_3 : decode cX4_placeOf 3 = .ok (.istore_n 3, 1) := by decide +kernel
theorem dX4_placeOf_32 : decode cX4_placeOf 32 = .ok (.iload_n 3, 1) := by decide +kernel
theorem dX4_placeOf_33 : decode cX4_placeOf 33 = .ok (.bipush 10, 2) := by decide +kernel
theorem dX4_placeOf_35 : decode cX4_placeOf 35 = .ok (.imul, 1) := by decide +kernel
theorem dX4_placeOf_36 : decode cX4_placeOf 36 = .ok (.iload_n 2, 1) := by decide +kernel
theorem dX4_placeOf_37 : decode cX4_placeOf 37 = .ok (.iadd, 1) := by decide +kernel
theorem dX4_placeOf_38 : decode cX4_placeOf 38 = .ok (.iconst 1, 1) := by decide +kernel
theorem dX4_placeOf_39 : decode cX4_placeOf 39 = .ok (.iadd, 1) := by decide +kernel
theorem dX4_placeOf_4 : decode cX4_placeOf 4 = .ok (.iload_n 3, 1) := by decide +kernel
theorem dX4_placeOf_40 : decode cX4_placeOf 40 = .ok (.ireturn, 1) := by decide +kernel
theorem dX4_placeOf_41 : decode cX4_placeOf 41 = .ok (.iload_n 2, 1) := by decide +kernel
theorem dX4_placeOf_42 : decode cX4_placeOf 42 = .ok (.iload 4, 2) := by decide +kernel
theorem dX4_placeOf_44 : decode cX4_placeOf 44 = .ok (.isub, 1) := by decide +kernel
theorem dX4_placeOf_45 : decode cX4_placeOf 45 = .ok (.istore_n 2, 1) := by decide +kernel
theorem dX4_placeOf_46 : decode cX4_placeOf 46 = .ok (.iinc 3 1, 3) := by decide +kernel
theorem dX4_placeOf_49 : decode cX4_placeOf 49 = .ok (.goto (-45), 3) := by decide +kernel
theorem dX4_placeOf_5 : decode cX4_placeOf 5 = .ok (.aload_n 0, 1) := by decide +kernel
theorem dX4_placeOf_52 : decode cX4_placeOf 52 = .ok (.iconst (-1), 1) := by decide +kernel
theorem dX4_placeOf_53 : decode cX4_placeOf 53 = .ok (.ireturn, 1) := by decide +kernel
theorem dX4_placeOf_6 : decode cX4_placeOf 6 = .ok (.getfield 21, 3) := by decide +kernel
theorem dX4_placeOf_9 : decode cX4_placeOf 9 = .ok (.if_icmp .ge 43, 3) := by decide +kernel
theorem dX8_isMode_0 : decode cX8_isMode 0 = .ok (.iload_n 0, 1) := by decide +kernel
theorem dX8_isMode_1 : decode cX8_isMode 1 = .ok (.ifCond .eq 8, 3) := by decide +kernel
theorem dX8_isMode_10 : decode cX8_isMode 10 = .ok (.goto 4, 3) := by decide +kernel
theorem dX8_isMode_13 : decode cX8_isMode 13 = .ok (.iconst 0, 1) := by decide +kernel
theorem dX8_isMode_14 : decode cX8_isMode 14 = .ok (.ireturn, 1) := by decide +kernel
theorem dX8_isMode_4 : decode cX8_isMode 4 = .ok (.iload_n 0, 1) := by decide +kernel
theorem dX8_isMode_5 : decode cX8_isMode 5 = .ok (.iconst 1, 1) := by decide +kernel
theorem dX8_isMode_6 : decode cX8_isMode 6 = .ok (.if_icmp .ne 7, 3) := by decide +kernel
theorem dX8_isMode_9 : decode cX8_isMode 9 = .ok (.iconst 1, 1) := by decide +kernel
def wsP_c_copyIns : List Cond := .code yX4_copyIns cX4_copyIns 7 none :: ([.methodLink RX4 31 yX4_partsAt, .static yX4_partsAt, .initialized RX4, .code yX4_partsAt cX4_partsAt 2 (some .int), .fieldLink RX4 18 "LitmusHall$Program" "parts" "[I", .methodLink RX4 53 yX4_addBlank, .instanceMethod yX4_addBlank, .selects RX4 yX4_addBlank yX4_addBlank, .fieldLink RX4 9 "LitmusHall$Program" "lengths" "[I", .code yX4_addBlank cX4_addBlank 4 (some .int), .methodLink RX4 43 arraycopyName, .native arraycopyName, .static arraycopyName, .initialized "java/lang/System"] ++ wsX40)
set_option maxRecDepth 20000 in
theorem gP_c_copyIns__c_partsAt : GoodIn wsP_c_copyIns (va_wsS RX4 31 yX4_partsAt wsP_c_partsAt) := goodIn_r _ [1, 2, 3, 4] (by decide +kernel) (by decide +kernel)
set_option maxRecDepth 20000 in
theorem gP_c_copyIns__c_addBlank : GoodIn wsP_c_copyIns (wsV RX4 53 RX4 yX4_addBlank wsP_c_addBlank) := goodIn_r _ [6, 7, 8, 3, 10, 9, 1, 2, 3, 4, 5, 15, 16, 17, 18] (by decide +kernel) (by decide +kernel)
set_option maxHeartbeats 4000000 in
set_option maxRecDepth 100000 in
theorem c_copyIns (l : Launch) (D : va_G) (cI cB cZ : ClassId) (h0 : Nat) (a1 : Nat) (a3 : Nat) (p0 : Nat) (b3 : Nat) (v0 : Value) (v2 : Value) (w0 : Value) (w1 : Value) (w2 : Value) (L : Nat → Nat) (pf : Nat → Int32) (pg : Nat → Int32) (k : Nat) (i : Nat) (n0 : Nat) (n : Nat) (x : Int32) (hk : k < 3) (hi : i < 8) (hl8 : L k < 8) (hn0 : ((k * 8) + i) * 8 = n0) (hn : ((k * 8) + (L k)) * 8 = n) : gMv l yX4_copyIns wsP_c_copyIns ({ frames := 2, cells := 0, slots := 0, locals := 44 }) D cI cB cZ [] [.ref h0, .ref p0, .int (nI k), .int (nI i), .int x] [(h0, .inr (4, [v0, .ref a1, v2, .ref a3])), (a1, .inl (cI, 3, .inl (fun j => nI (L j)))), (a3, .inl (cI, 192, .inl pf)), (p0, .inr (4, [w0, w1, w2, .ref b3])), (b3, .inl (cI, 192, .inl pg))] (fun w9 => w9 = [(h0, .inr (4, [v0, .ref a1, v2, .ref a3])), (a1, .inl (cI, 3, .inl (fun j => nI ((updN L k ((L k) + 1)) j)))), (a3, .inl (cI, 192, .inl (upd (va_cpy pg (gBlank pf n (pg (n0 + 0))) n0 n 8) (n + 7) x))), (p0, .inr (4, [w0, w1, w2, .ref b3])), (b3, .inl (cI, 192, .inl pg))]) := by
  refine gMv.of (cc := cX4_copyIns) (maxL := 7) (ret := none) (by decide) rfl (Nat.le_of_ble_eq_true rfl) (fun p e s m below meth c A ls hx hb hr hlk hml hts hown hin hA hP hK hD hS hN hl => ?_)
  have hown : s.vm.findClass RX4 = some m.cls := hown
  have hl : lv_has ls 7 [(0, .ref h0), (1, .ref p0), (2, .int (nI k)), (3, .int (nI i)), (4, .int x)] := hl
  refine lv_iload_n hx hb dX4_copyIns_0 rfl (lv_at hl 2 rfl) ?_
  refine lv_iload_n hx hb dX4_copyIns_1 rfl (lv_at hl 3 rfl) ?_
  refine gx_goi (wc := []) (wr := [(h0, .inr (4, [v0, .ref a1, v2, .ref a3])), (a1, .inl (cI, 3, .inl (fun j => nI (L j)))), (a3, .inl (cI, 192, .inl pf)), (p0, .inr (4, [w0, w1, w2, .ref b3])), (b3, .inl (cI, 192, .inl pg))]) (va_runS (As := [.int (nI k), .int (nI i)]) (rest := []) ⟨hx, hb, hml, hown, hts⟩ (c_partsAt l D cI cB cZ k i _) (va_cwS 2 hts gP_c_copyIns__c_partsAt rfl rfl rfl (by decide +kernel) ⟨Nat.le_of_ble_eq_true rfl, Nat.le_of_ble_eq_true rfl⟩) (gx_preS hK gN.nil hP hD [] rfl rfl) rfl rfl hl.1 rfl (lv_room (Nat.le_of_ble_eq_true rfl)) dX4_copyIns_2 ⟨Nat.le_of_ble_eq_true rfl, Nat.le_of_ble_eq_true rfl⟩) hP hD hS hA [] [0, 1, 2, 3, 4] rfl rfl rfl (by decide) (fun r1 w1 H locs hp hP hD hS => ?_)
  obtain ⟨h9, rfl⟩ := hp
  have h9 := h9.symm
  subst h9
  have hP : va_P D vwCl [(h0, .inr (4, [v0, .ref a1, v2, .ref a3])), (a1, .inl (cI, 3, .inl (fun j => nI (L j)))), (a3, .inl (cI, 192, .inl pf)), (p0, .inr (4, [w0, w1, w2, .ref b3])), (b3, .inl (cI, 192, .inl pg))] H := hP
  have hD : va_D A [(h0, .inr (4, [v0, .ref a1, v2, .ref a3])), (a1, .inl (cI, 3, .inl (fun j => nI (L j)))), (a3, .inl (cI, 192, .inl pf)), (p0, .inr (4, [w0, w1, w2, .ref b3])), (b3, .inl (cI, 192, .inl pg))] := hD
  refine gx_top (y := nI n0) (by rw [hn0]) ?_
  refine lv_istore (lv' := [(5, .int (nI n0)), (0, .ref h0), (1, .ref p0), (2, .int (nI k)), (3, .int (nI i)), (4, .int x)]) hx hb dX4_copyIns_5 hl (by decide) rfl (fun ls hl => ?_)
  refine lv_aload_n hx hb dX4_copyIns_7 rfl (lv_at hl 1 rfl) ?_
  refine lv_iload_n hx hb dX4_copyIns_8 rfl (lv_at hl 3 rfl) ?_
  refine lv_aload_n hx hb dX4_copyIns_9 rfl (lv_at hl 2 rfl) ?_
  refine va_get (D := D) (ci := 4) (v := .ref b3) (C := RX4) (T := TX4) (N := 4) hx hb hts (fun _ h => List.mem_cons_of_mem _ (List.mem_append_right _ h)) hown hK hP 3 rfl rfl 3 (by decide) (hts (.fieldLink RX4 18 "LitmusHall$Program" "parts" "[I") (by decide +kernel)) (fun _ h9 => h9) rfl dX4_copyIns_10 ?_
  refine lv_iload hx hb dX4_copyIns_13 (lv_at hl 0 rfl) ?_
  refine lv_iconst (v := 0) hx hb dX4_copyIns_15 (by decide) ?_
  refine lv_iadd hx hb dX4_copyIns_16 ?_
  refine gx_top (y := nI (n0 + 0)) (nI_add n0 0) ?_
  refine gy_ild (i := (n0 + 0)) hx hb hK hP 4 rfl (by omega) (by omega) dX4_copyIns_17 ?_
  refine gx_goi (wc := [(h0, .inr (4, [v0, .ref a1, v2, .ref a3])), (a1, .inl (cI, 3, .inl (fun j => nI (L j)))), (a3, .inl (cI, 192, .inl pf))]) (wr := [(p0, .inr (4, [w0, w1, w2, .ref b3])), (b3, .inl (cI, 192, .inl pg))]) (va_runV (As := [.int (nI k), .int (pg (n0 + 0))]) (rest := []) ⟨hx, hb, hml, hown, hts⟩ (c_addBlank l D cI cB cZ h0 a1 a3 (v0) (v2) L pf k n (pg (n0 + 0)) (by omega) (by omega) hn _) (cwV 2 hts gP_c_copyIns__c_addBlank rfl rfl rfl (by decide +kernel) ⟨Nat.le_of_ble_eq_true rfl, Nat.le_of_ble_eq_true rfl⟩) (gx_preV (ci := 4) (q0 := 0) hK gN.nil hP hD [0, 1, 2] rfl rfl rfl rfl) rfl rfl hl.1 rfl (lv_room (Nat.le_of_ble_eq_true rfl)) dX4_copyIns_18 ⟨Nat.le_of_ble_eq_true rfl, Nat.le_of_ble_eq_true rfl⟩) hP hD hS hA [0, 1, 2] [3, 4] rfl rfl rfl (by decide) (fun r1 w1 H locs hp hP hD hS => ?_)
  obtain ⟨h9, rfl⟩ := hp
  have h9 := h9.symm
  subst h9
  have hP : va_P D vwCl [(p0, .inr (4, [w0, w1, w2, .ref b3])), (b3, .inl (cI, 192, .inl pg)), (h0, .inr (4, [v0, .ref a1, v2, .ref a3])), (a1, .inl (cI, 3, .inl (fun j => nI ((updN L k ((L k) + 1)) j)))), (a3, .inl (cI, 192, .inl (gBlank pf n (pg (n0 + 0)))))] H := hP
  have hD : va_D A [(p0, .inr (4, [w0, w1, w2, .ref b3])), (b3, .inl (cI, 192, .inl pg)), (h0, .inr (4, [v0, .ref a1, v2, .ref a3])), (a1, .inl (cI, 3, .inl (fun j => nI ((updN L k ((L k) + 1)) j)))), (a3, .inl (cI, 192, .inl (gBlank pf n (pg (n0 + 0)))))] := hD
  refine lv_istore (lv' := [(6, .int (nI n)), (5, .int (nI n0)), (0, .ref h0), (1, .ref p0), (2, .int (nI k)), (3, .int (nI i)), (4, .int x)]) hx hb dX4_copyIns_21 hl (by decide) rfl (fun ls hl => ?_)
  refine lv_aload_n hx hb dX4_copyIns_23 rfl (lv_at hl 3 rfl) ?_
  refine va_get (D := D) (ci := 4) (v := .ref b3) (C := RX4) (T := TX4) (N := 4) hx hb hts (fun _ h => List.mem_cons_of_mem _ (List.mem_append_right _ h)) hown hK hP 0 rfl rfl 3 (by decide) (hts (.fieldLink RX4 18 "LitmusHall$Program" "parts" "[I") (by decide +kernel)) (fun _ h9 => h9) rfl dX4_copyIns_24 ?_
  refine lv_iload hx hb dX4_copyIns_27 (lv_at hl 1 rfl) ?_
  refine lv_aload_n hx hb dX4_copyIns_29 rfl (lv_at hl 2 rfl) ?_
  refine va_get (D := D) (ci := 4) (v := .ref a3) (C := RX4) (T := TX4) (N := 4) hx hb hts (fun _ h => List.mem_cons_of_mem _ (List.mem_append_right _ h)) hown hK hP 2 rfl rfl 3 (by decide) (hts (.fieldLink RX4 18 "LitmusHall$Program" "parts" "[I") (by decide +kernel)) (fun _ h9 => h9) rfl dX4_copyIns_30 ?_
  refine lv_iload hx hb dX4_copyIns_33 (lv_at hl 0 rfl) ?_
  refine lv_bipush (v := 8) hx hb dX4_copyIns_35 (by decide) ?_
  refine gy_copyi (sp := n0) (dp := n) (n := 8) hx hb (hml.trans hl.1.symm) hown (hts (.methodLink RX4 43 arraycopyName) (by decide +kernel)) (hts (.native arraycopyName) (by decide +kernel)) (hts (.static arraycopyName) (by decide +kernel)) (hts (.initialized "java/lang/System") (by decide +kernel)) hK hP hD hS 1 4 rfl rfl (by omega) (by omega) (by omega) (by omega) (by omega) (Nat.le_of_ble_eq_true rfl) (Nat.le_of_ble_eq_true rfl) dX4_copyIns_37 (fun H locs hP hD hS => ?_)
  have hP : va_P D vwCl [(p0, .inr (4, [w0, w1, w2, .ref b3])), (b3, .inl (cI, 192, .inl pg)), (h0, .inr (4, [v0, .ref a1, v2, .ref a3])), (a1, .inl (cI, 3, .inl (fun j => nI ((updN L k ((L k) + 1)) j)))), (a3, .inl (cI, 192, .inl (va_cpy pg (gBlank pf n (pg (n0 + 0))) n0 n 8)))] H := hP
  have hD : va_D A [(p0, .inr (4, [w0, w1, w2, .ref b3])), (b3, .inl (cI, 192, .inl pg)), (h0, .inr (4, [v0, .ref a1, v2, .ref a3])), (a1, .inl (cI, 3, .inl (fun j => nI ((updN L k ((L k) + 1)) j)))), (a3, .inl (cI, 192, .inl (va_cpy pg (gBlank pf n (pg (n0 + 0))) n0 n 8)))] := hD
  refine lv_aload_n hx hb dX4_copyIns_40 rfl (lv_at hl 2 rfl) ?_
  refine va_get (D := D) (ci := 4) (v := .ref a3) (C := RX4) (T := TX4) (N := 4) hx hb hts (fun _ h => List.mem_cons_of_mem _ (List.mem_append_right _ h)) hown hK hP 2 rfl rfl 3 (by decide) (hts (.fieldLink RX4 18 "LitmusHall$Program" "parts" "[I") (by decide +kernel)) (fun _ h9 => h9) rfl dX4_copyIns_41 ?_
  refine lv_iload hx hb dX4_copyIns_44 (lv_at hl 0 rfl) ?_
  refine lv_bipush (v := 7) hx hb dX4_copyIns_46 (by decide) ?_
  refine lv_iadd hx hb dX4_copyIns_48 ?_
  refine gx_top (y := nI (n + 7)) (nI_add n 7) ?_
  refine lv_iload hx hb dX4_copyIns_49 (lv_at hl 6 rfl) ?_
  refine gy_ist (i := (n + 7)) hx hb hK hP hD hS 4 rfl (by omega) (by omega) dX4_copyIns_51 (fun H locs hP hD hS => ?_)
  have hP : va_P D vwCl [(p0, .inr (4, [w0, w1, w2, .ref b3])), (b3, .inl (cI, 192, .inl pg)), (h0, .inr (4, [v0, .ref a1, v2, .ref a3])), (a1, .inl (cI, 3, .inl (fun j => nI ((updN L k ((L k) + 1)) j)))), (a3, .inl (cI, 192, .inl (upd (va_cpy pg (gBlank pf n (pg (n0 + 0))) n0 n 8) (n + 7) x)))] H := hP
  have hD : va_D A [(p0, .inr (4, [w0, w1, w2, .ref b3])), (b3, .inl (cI, 192, .inl pg)), (h0, .inr (4, [v0, .ref a1, v2, .ref a3])), (a1, .inl (cI, 3, .inl (fun j => nI ((updN L k ((L k) + 1)) j)))), (a3, .inl (cI, 192, .inl (upd (va_cpy pg (gBlank pf n (pg (n0 + 0))) n0 n 8) (n + 7) x)))] := hD
  have hP := hP.sub (ws' := [(h0, .inr (4, [v0, .ref a1, v2, .ref a3])), (a1, .inl (cI, 3, .inl (fun j => nI ((updN L k ((L k) + 1)) j)))), (a3, .inl (cI, 192, .inl (upd (va_cpy pg (gBlank pf n (pg (n0 + 0))) n0 n 8) (n + 7) x))), (p0, .inr (4, [w0, w1, w2, .ref b3])), (b3, .inl (cI, 192, .inl pg))]) [2, 3, 4, 0, 1] rfl
  have hD := hD.sub (ws' := [(h0, .inr (4, [v0, .ref a1, v2, .ref a3])), (a1, .inl (cI, 3, .inl (fun j => nI ((updN L k ((L k) + 1)) j)))), (a3, .inl (cI, 192, .inl (upd (va_cpy pg (gBlank pf n (pg (n0 + 0))) n0 n 8) (n + 7) x))), (p0, .inr (4, [w0, w1, w2, .ref b3])), (b3, .inl (cI, 192, .inl pg))]) [2, 3, 4, 0, 1] (by decide) rfl
  exact gx_vret (w' := [(h0, .inr (4, [v0, .ref a1, v2, .ref a3])), (a1, .inl (cI, 3, .inl (fun j => nI ((updN L k ((L k) + 1)) j)))), (a3, .inl (cI, 192, .inl (upd (va_cpy pg (gBlank pf n (pg (n0 + 0))) n0 n 8) (n + 7) x))), (p0, .inr (4, [w0, w1, w2, .ref b3])), (b3, .inl (cI, 192, .inl pg))]) hx hb hr hlk hK hP hD hS (Nat.le_of_ble_eq_true rfl) (Nat.le_of_ble_eq_true rfl) dX4_copyIns_52 rfl
def wsP_c_forgetSearch : List Cond := .code yX0_forgetSearch cX0_forgetSearch 1 none :: ([.fieldLink RX0 29 "LitmusHall$Cure" "lookedSizes" "I", .fieldLink RX0 18 "LitmusHall$Cure" "answer" "I"] ++ wsX00)
set_option maxHeartbeats 4000000 in
set_option maxRecDepth 100000 in
theorem c_forgetSearch (l : Launch) (D : va_G) (cI cB cZ : ClassId) (h0 : Nat) (v0 : Value) (v1 : Value) (v2 : Value) (v3 : Value) (v4 : Value) (v5 : Value)  : gMv l yX0_forgetSearch wsP_c_forgetSearch ({ frames := 0, cells := 0, slots := 0, locals := 0 }) D cI cB cZ [] [.ref h0] [(h0, .inr (0, [v0, v1, v2, v3, v4, v5]))] (fun w9 => w9 = [(h0, .inr (0, [v0, .int 0, .int (-1), v3, v4, v5]))]) := by
  refine gMv.of (cc := cX0_forgetSearch) (maxL := 1) (ret := none) (by decide) rfl (Nat.le_of_ble_eq_true rfl) (fun p e s m below meth c A ls hx hb hr hlk hml hts hown hin hA hP hK hD hS hN hl => ?_)
  have hown : s.vm.findClass RX0 = some m.cls := hown
  have hl : lv_has ls 1 [(0, .ref h0)] := hl
  refine lv_aload_n hx hb dX0_forgetSearch_0 rfl (lv_at hl 0 rfl) ?_
  refine lv_iconst (v := 0) hx hb dX0_forgetSearch_1 (by decide) ?_
  refine va_put (D := D) (ci := 0) (v := .int 0) (ty := .int) (C := RX0) (T := TX0) (N := 6) hx hb hts (fun _ h => List.mem_cons_of_mem _ (List.mem_append_right _ h)) tyX0 tyX0_ok nmX0 hown hK hP hD hS 0 rfl rfl 1 (by decide) (hts (.fieldLink RX0 29 "LitmusHall$Cure" "lookedSizes" "I") (by decide +kernel)) (fun _ h9 => h9) rfl (by decide +kernel) rfl rfl (Nat.le_of_ble_eq_true rfl) dX0_forgetSearch_2 (fun H locs hP hD hS => ?_)
  have hP : va_P D vwCl [(h0, .inr (0, [v0, .int 0, v2, v3, v4, v5]))] H := hP
  have hD : va_D A [(h0, .inr (0, [v0, .int 0, v2, v3, v4, v5]))] := hD
  refine lv_aload_n hx hb dX0_forgetSearch_5 rfl (lv_at hl 0 rfl) ?_
  refine lv_iconst (v := (-1)) hx hb dX0_forgetSearch_6 (by decide) ?_
  refine va_put (D := D) (ci := 0) (v := .int (-1)) (ty := .int) (C := RX0) (T := TX0) (N := 6) hx hb hts (fun _ h => List.mem_cons_of_mem _ (List.mem_append_right _ h)) tyX0 tyX0_ok nmX0 hown hK hP hD hS 0 rfl rfl 2 (by decide) (hts (.fieldLink RX0 18 "LitmusHall$Cure" "answer" "I") (by decide +kernel)) (fun _ h9 => h9) rfl (by decide +kernel) rfl rfl (Nat.le_of_ble_eq_true rfl) dX0_forgetSearch_7 (fun H locs hP hD hS => ?_)
  have hP : va_P D vwCl [(h0, .inr (0, [v0, .int 0, .int (-1), v3, v4, v5]))] H := hP
  have hD : va_D A [(h0, .inr (0, [v0, .int 0, .int (-1), v3, v4, v5]))] := hD
  exact gx_vret (w' := [(h0, .inr (0, [v0, .int 0, .int (-1), v3, v4, v5]))]) hx hb hr hlk hK hP hD hS (Nat.le_of_ble_eq_true rfl) (Nat.le_of_ble_eq_true rfl) dX0_forgetSearch_10 rfl
