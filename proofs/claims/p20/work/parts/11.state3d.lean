theorem dX7_start_0 : decode cX7_start 0 = .ok (.aload_n 0, 1) := by decide +kernel
theorem dX7_start_1 : decode cX7_start 1 = .ok (.getfield 11, 3) := by decide +kernel
theorem dX7_start_12 : decode cX7_start 12 = .ok (.iconst 0, 1) := by decide +kernel
theorem dX7_start_13 : decode cX7_start 13 = .ok (.aload_n 0, 1) := by decide +kernel
theorem dX7_start_14 : decode cX7_start 14 = .ok (.getfield 11, 3) := by decide +kernel
theorem dX7_start_17 : decode cX7_start 17 = .ok (.bipush 9, 2) := by decide +kernel
theorem dX7_start_19 : decode cX7_start 19 = .ok (.iconst 4, 1) := by decide +kernel
theorem dX7_start_20 : decode cX7_start 20 = .ok (.invokestatic 30, 3) := by decide +kernel
theorem dX7_start_23 : decode cX7_start 23 = .ok (.return_, 1) := by decide +kernel
theorem dX7_start_4 : decode cX7_start 4 = .ok (.iconst 0, 1) := by decide +kernel
theorem dX7_start_5 : decode cX7_start 5 = .ok (.invokestatic 21, 3) := by decide +kernel
theorem dX7_start_8 : decode cX7_start 8 = .ok (.aload_n 1, 1) := by decide +kernel
theorem dX7_start_9 : decode cX7_start 9 = .ok (.getfield 27, 3) := by decide +kernel
def wsP_c_start : List Cond := .code yX7_start cX7_start 2 none :: ([.fieldLink RX7 11 "LitmusHall$State" "words" "[I", .methodLink RX7 21 yJ7_fill_53178, .static yJ7_fill_53178, .initialized RJ7, .code yJ7_fill_53178 cJ7_fill_53178 4 none, .fieldLink RX7 27 "LitmusHall$Program" "cells" "[I", .methodLink RX7 30 arraycopyName, .native arraycopyName, .static arraycopyName, .initialized "java/lang/System"] ++ wsX70 ++ wsX40)
set_option maxRecDepth 20000 in
theorem gP_c_start__c_fill : GoodIn wsP_c_start (va_wsS RX7 21 yJ7_fill_53178 wsP_c_fill) := goodIn_r _ [2, 3, 4, 5] (by decide +kernel) (by decide +kernel)
set_option maxHeartbeats 4000000 in
set_option maxRecDepth 100000 in
theorem c_start (l : Launch) (D : va_G) (cI cB cZ : ClassId) (h0 : Nat) (a1 : Nat) (f : Nat → Int32) (p0 : Nat) (b2 : Nat) (v0 : Value) (v1 : Value) (v3 : Value) (cf : Nat → Int32)  : gMv l yX7_start wsP_c_start ({ frames := 1, cells := 0, slots := 0, locals := 40 }) D cI cB cZ [] [.ref h0, .ref p0] [(h0, .inr (7, [.ref a1])), (a1, .inl (cI, 34, .inl f)), (p0, .inr (4, [v0, v1, .ref b2, v3])), (b2, .inl (cI, 4, .inl cf))] (fun w9 => ∃ g : Nat → Int32, (gOkW g) ∧ (∀ j, j < 34 → 13 ≤ j → g j = 0) ∧ w9 = [(h0, .inr (7, [.ref a1])), (a1, .inl (cI, 34, .inl g)), (p0, .inr (4, [v0, v1, .ref b2, v3])), (b2, .inl (cI, 4, .inl cf))]) := by
  refine gMv.of (cc := cX7_start) (maxL := 2) (ret := none) (by decide) rfl (Nat.le_of_ble_eq_true rfl) (fun p e s m below meth c A ls hx hb hr hlk hml hts hown hin hA hP hK hD hS hN hl => ?_)
  have hown : s.vm.findClass RX7 = some m.cls := hown
  have hl : lv_has ls 2 [(0, .ref h0), (1, .ref p0)] := hl
  refine lv_aload_n hx hb dX7_start_0 rfl (lv_at hl 0 rfl) ?_
  refine va_get (D := D) (ci := 7) (v := .ref a1) (C := RX7) (T := TX7) (N := 1) hx hb hts (fun _ h => List.mem_cons_of_mem _ (List.mem_append_left _ (List.mem_append_right _ h))) hown hK hP 0 rfl rfl 0 (by decide) (hts (.fieldLink RX7 11 "LitmusHall$State" "words" "[I") (by decide +kernel)) (fun _ h9 => h9) rfl dX7_start_1 ?_
  refine lv_iconst (v := 0) hx hb dX7_start_4 (by decide) ?_
  refine gx_gov (wc := [(a1, .inl (cI, 34, .inl f))]) (wr := [(h0, .inr (7, [.ref a1])), (p0, .inr (4, [v0, v1, .ref b2, v3])), (b2, .inl (cI, 4, .inl cf))]) (va_runS (As := [.ref a1, .int 0]) (rest := []) ⟨hx, hb, hml, hown, hts⟩ (c_fill l D cI cB cZ a1 34 f 0 (by omega) _) (va_cwS 2 hts gP_c_start__c_fill rfl rfl rfl (by decide +kernel) ⟨Nat.le_of_ble_eq_true rfl, Nat.le_of_ble_eq_true rfl⟩) (gx_preS hK gN.nil hP hD [1] rfl rfl) rfl rfl hl.1 rfl (lv_room (Nat.le_of_ble_eq_true rfl)) dX7_start_5 ⟨Nat.le_of_ble_eq_true rfl, Nat.le_of_ble_eq_true rfl⟩) hP hD hS hA [1] [0, 2, 3] rfl rfl rfl (by decide) (fun w1 H locs hp hP hD hS => ?_)
  obtain ⟨e_1, hq_2, rfl⟩ := hp
  have hq_2 : ∀ j, j < 34 → e_1 j = 0 := hq_2
  have hP : va_P D vwCl [(h0, .inr (7, [.ref a1])), (p0, .inr (4, [v0, v1, .ref b2, v3])), (b2, .inl (cI, 4, .inl cf)), (a1, .inl (cI, 34, .inl e_1))] H := hP
  have hD : va_D A [(h0, .inr (7, [.ref a1])), (p0, .inr (4, [v0, v1, .ref b2, v3])), (b2, .inl (cI, 4, .inl cf)), (a1, .inl (cI, 34, .inl e_1))] := hD
  refine lv_aload_n hx hb dX7_start_8 rfl (lv_at hl 1 rfl) ?_
  refine va_get (D := D) (ci := 4) (v := .ref b2) (C := RX4) (T := TX4) (N := 4) hx hb hts (fun _ h => List.mem_cons_of_mem _ (List.mem_append_right _ h)) hown hK hP 1 rfl rfl 2 (by decide) (hts (.fieldLink RX7 27 "LitmusHall$Program" "cells" "[I") (by decide +kernel)) (fun _ h9 => h9) rfl dX7_start_9 ?_
  refine lv_iconst (v := 0) hx hb dX7_start_12 (by decide) ?_
  refine lv_aload_n hx hb dX7_start_13 rfl (lv_at hl 0 rfl) ?_
  refine va_get (D := D) (ci := 7) (v := .ref a1) (C := RX7) (T := TX7) (N := 1) hx hb hts (fun _ h => List.mem_cons_of_mem _ (List.mem_append_left _ (List.mem_append_right _ h))) hown hK hP 0 rfl rfl 0 (by decide) (hts (.fieldLink RX7 11 "LitmusHall$State" "words" "[I") (by decide +kernel)) (fun _ h9 => h9) rfl dX7_start_14 ?_
  refine lv_bipush (v := 9) hx hb dX7_start_17 (by decide) ?_
  refine lv_iconst (v := 4) hx hb dX7_start_19 (by decide) ?_
  refine gy_copyi (sp := 0) (dp := 9) (n := 4) hx hb (hml.trans hl.1.symm) hown (hts (.methodLink RX7 30 arraycopyName) (by decide +kernel)) (hts (.native arraycopyName) (by decide +kernel)) (hts (.static arraycopyName) (by decide +kernel)) (hts (.initialized "java/lang/System") (by decide +kernel)) hK hP hD hS 2 3 rfl rfl (by omega) (by omega) (by omega) (by omega) (by omega) (Nat.le_of_ble_eq_true rfl) (Nat.le_of_ble_eq_true rfl) dX7_start_20 (fun H locs hP hD hS => ?_)
  have hP : va_P D vwCl [(h0, .inr (7, [.ref a1])), (p0, .inr (4, [v0, v1, .ref b2, v3])), (b2, .inl (cI, 4, .inl cf)), (a1, .inl (cI, 34, .inl (va_cpy cf e_1 0 9 4)))] H := hP
  have hD : va_D A [(h0, .inr (7, [.ref a1])), (p0, .inr (4, [v0, v1, .ref b2, v3])), (b2, .inl (cI, 4, .inl cf)), (a1, .inl (cI, 34, .inl (va_cpy cf e_1 0 9 4)))] := hD
  have hP := hP.sub (ws' := [(h0, .inr (7, [.ref a1])), (a1, .inl (cI, 34, .inl (va_cpy cf e_1 0 9 4))), (p0, .inr (4, [v0, v1, .ref b2, v3])), (b2, .inl (cI, 4, .inl cf))]) [0, 3, 1, 2] rfl
  have hD := hD.sub (ws' := [(h0, .inr (7, [.ref a1])), (a1, .inl (cI, 34, .inl (va_cpy cf e_1 0 9 4))), (p0, .inr (4, [v0, v1, .ref b2, v3])), (b2, .inl (cI, 4, .inl cf))]) [0, 3, 1, 2] (by decide) rfl
  exact gx_vret (w' := [(h0, .inr (7, [.ref a1])), (a1, .inl (cI, 34, .inl (va_cpy cf e_1 0 9 4))), (p0, .inr (4, [v0, v1, .ref b2, v3])), (b2, .inl (cI, 4, .inl cf))]) hx hb hr hlk hK hP hD hS (Nat.le_of_ble_eq_true rfl) (Nat.le_of_ble_eq_true rfl) dX7_start_23 ⟨(va_cpy cf e_1 0 9 4), (gOkW_0 (fun k hk => by rw [pk_cpy_out (by omega)]; exact hq_2 (13 + k) (by omega))), (fun j h1 h2 => by rw [pk_cpy_out (by omega)]; exact hq_2 j h1), rfl⟩
