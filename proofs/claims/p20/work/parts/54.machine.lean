theorem dX3_go_0 : decode cX3_go 0 = .ok (.aload_n 0, 1) := by decide +kernel
theorem dX3_go_1 : decode cX3_go 1 = .ok (.getfield 30, 3) := by decide +kernel
theorem dX3_go_10 : decode cX3_go 10 = .ok (.getfield 12, 3) := by decide +kernel
theorem dX3_go_13 : decode cX3_go 13 = .ok (.aload_n 1, 1) := by decide +kernel
theorem dX3_go_14 : decode cX3_go 14 = .ok (.iload_n 2, 1) := by decide +kernel
theorem dX3_go_15 : decode cX3_go 15 = .ok (.invokevirtual 37, 3) := by decide +kernel
theorem dX3_go_18 : decode cX3_go 18 = .ok (.ifCond .ne 5, 3) := by decide +kernel
theorem dX3_go_21 : decode cX3_go 21 = .ok (.iconst 0, 1) := by decide +kernel
theorem dX3_go_22 : decode cX3_go 22 = .ok (.ireturn, 1) := by decide +kernel
theorem dX3_go_23 : decode cX3_go 23 = .ok (.aload_n 0, 1) := by decide +kernel
theorem dX3_go_24 : decode cX3_go 24 = .ok (.getfield 12, 3) := by decide +kernel
theorem dX3_go_27 : decode cX3_go 27 = .ok (.aload_n 1, 1) := by decide +kernel
theorem dX3_go_28 : decode cX3_go 28 = .ok (.iload_n 2, 1) := by decide +kernel
theorem dX3_go_29 : decode cX3_go 29 = .ok (.aload_n 0, 1) := by decide +kernel
theorem dX3_go_30 : decode cX3_go 30 = .ok (.getfield 26, 3) := by decide +kernel
theorem dX3_go_33 : decode cX3_go 33 = .ok (.invokevirtual 41, 3) := by decide +kernel
theorem dX3_go_36 : decode cX3_go 36 = .ok (.aload_n 0, 1) := by decide +kernel
theorem dX3_go_37 : decode cX3_go 37 = .ok (.getfield 18, 3) := by decide +kernel
theorem dX3_go_4 : decode cX3_go 4 = .ok (.bipush 38, 2) := by decide +kernel
theorem dX3_go_40 : decode cX3_go 40 = .ok (.aload_n 0, 1) := by decide +kernel
theorem dX3_go_41 : decode cX3_go 41 = .ok (.getfield 30, 3) := by decide +kernel
theorem dX3_go_44 : decode cX3_go 44 = .ok (.iload_n 2, 1) := by decide +kernel
theorem dX3_go_45 : decode cX3_go 45 = .ok (.iastore, 1) := by decide +kernel
theorem dX3_go_46 : decode cX3_go 46 = .ok (.aload_n 0, 1) := by decide +kernel
theorem dX3_go_47 : decode cX3_go 47 = .ok (.dup, 1) := by decide +kernel
theorem dX3_go_48 : decode cX3_go 48 = .ok (.getfield 30, 3) := by decide +kernel
theorem dX3_go_51 : decode cX3_go 51 = .ok (.iconst 1, 1) := by decide +kernel
theorem dX3_go_52 : decode cX3_go 52 = .ok (.iadd, 1) := by decide +kernel
theorem dX3_go_53 : decode cX3_go 53 = .ok (.putfield 30, 3) := by decide +kernel
theorem dX3_go_56 : decode cX3_go 56 = .ok (.iconst 1, 1) := by decide +kernel
theorem dX3_go_57 : decode cX3_go 57 = .ok (.ireturn, 1) := by decide +kernel
theorem dX3_go_6 : decode cX3_go 6 = .ok (.if_icmp .ge 15, 3) := by decide +kernel
theorem dX3_go_9 : decode cX3_go 9 = .ok (.aload_n 0, 1) := by decide +kernel
theorem dX3_takeBack_0 : decode cX3_takeBack 0 = .ok (.aload_n 0, 1) := by decide +kernel
theorem dX3_takeBack_1 : decode cX3_takeBack 1 = .ok (.getfield 30, 3) := by decide +kernel
theorem dX3_takeBack_10 : decode cX3_takeBack 10 = .ok (.dup, 1) := by decide +kernel
theorem dX3_takeBack_11 : decode cX3_takeBack 11 = .ok (.getfield 30, 3) := by decide +kernel
theorem dX3_takeBack_14 : decode cX3_takeBack 14 = .ok (.iconst 1, 1) := by decide +kernel
theorem dX3_takeBack_15 : decode cX3_takeBack 15 = .ok (.isub, 1) := by decide +kernel
theorem dX3_takeBack_16 : decode cX3_takeBack 16 = .ok (.putfield 30, 3) := by decide +kernel
theorem dX3_takeBack_19 : decode cX3_takeBack 19 = .ok (.aload_n 0, 1) := by decide +kernel
theorem dX3_takeBack_20 : decode cX3_takeBack 20 = .ok (.getfield 12, 3) := by decide +kernel
theorem dX3_takeBack_23 : decode cX3_takeBack 23 = .ok (.aload_n 1, 1) := by decide +kernel
theorem dX3_takeBack_24 : decode cX3_takeBack 24 = .ok (.invokevirtual 33, 3) := by decide +kernel
theorem dX3_takeBack_27 : decode cX3_takeBack 27 = .ok (.iconst 0, 1) := by decide +kernel
theorem dX3_takeBack_28 : decode cX3_takeBack 28 = .ok (.istore_n 2, 1) := by decide +kernel
theorem dX3_takeBack_29 : decode cX3_takeBack 29 = .ok (.iload_n 2, 1) := by decide +kernel
theorem dX3_takeBack_30 : decode cX3_takeBack 30 = .ok (.aload_n 0, 1) := by decide +kernel
theorem dX3_takeBack_31 : decode cX3_takeBack 31 = .ok (.getfield 30, 3) := by decide +kernel
theorem dX3_takeBack_34 : decode cX3_takeBack 34 = .ok (.if_icmp .ge 27, 3) := by decide +kernel
theorem dX3_takeBack_37 : decode cX3_takeBack 37 = .ok (.aload_n 0, 1) := by decide +kernel
theorem dX3_takeBack_38 : decode cX3_takeBack 38 = .ok (.getfield 12, 3) := by decide +kernel
theorem dX3_takeBack_4 : decode cX3_takeBack 4 = .ok (.ifCond .ne 5, 3) := by decide +kernel
theorem dX3_takeBack_41 : decode cX3_takeBack 41 = .ok (.aload_n 1, 1) := by decide +kernel
theorem dX3_takeBack_42 : decode cX3_takeBack 42 = .ok (.aload_n 0, 1) := by decide +kernel
theorem dX3_takeBack_43 : decode cX3_takeBack 43 = .ok (.getfield 18, 3) := by decide +kernel
theorem dX3_takeBack_46 : decode cX3_takeBack 46 = .ok (.iload_n 2, 1) := by decide +kernel
theorem dX3_takeBack_47 : decode cX3_takeBack 47 = .ok (.iaload, 1) := by decide +kernel
theorem dX3_takeBack_48 : decode cX3_takeBack 48 = .ok (.aload_n 0, 1) := by decide +kernel
theorem dX3_takeBack_49 : decode cX3_takeBack 49 = .ok (.getfield 26, 3) := by decide +kernel
theorem dX3_takeBack_52 : decode cX3_takeBack 52 = .ok (.invokevirtual 41, 3) := by decide +kernel
theorem dX3_takeBack_55 : decode cX3_takeBack 55 = .ok (.iinc 2 1, 3) := by decide +kernel
theorem dX3_takeBack_58 : decode cX3_takeBack 58 = .ok (.goto (-29), 3) := by decide +kernel
theorem dX3_takeBack_61 : decode cX3_takeBack 61 = .ok (.iconst 1, 1) := by decide +kernel
theorem dX3_takeBack_62 : decode cX3_takeBack 62 = .ok (.ireturn, 1) := by decide +kernel
theorem dX3_takeBack_7 : decode cX3_takeBack 7 = .ok (.iconst 0, 1) := by decide +kernel
theorem dX3_takeBack_8 : decode cX3_takeBack 8 = .ok (.ireturn, 1) := by decide +kernel
theorem dX3_takeBack_9 : decode cX3_takeBack 9 = .ok (.aload_n 0, 1) := by decide +kernel
def wsP_e_mstart : List Cond := .code yX3_start cX3_start 3 none :: (([.fieldLink RX3 22 "LitmusHall$Machine" "stands" "Z", .fieldLink RX3 26 "LitmusHall$Machine" "mode" "I", .fieldLink RX3 30 "LitmusHall$Machine" "steps" "I", .fieldLink RX3 12 "LitmusHall$Machine" "state" "LLitmusHall$State;", .methodLink RX3 33 yX7_start, .instanceMethod yX7_start, .selects RX7 yX7_start yX7_start, .initialized RX7] ++ wsX30) ++ (wsP_e_start ++ []))
theorem gW_e_mstart : wsP_e_mstart.all goodWord = true := by unfold wsP_e_mstart; exact gw_mk (by decide +kernel) (gw_app gW_e_start rfl)
set_option maxRecDepth 20000 in
theorem gP_e_mstart__e_start : GoodIn wsP_e_mstart (wsV RX3 33 RX7 yX7_start wsP_e_start) := gw_in (pre := [.methodLink RX3 33 yX7_start, .instanceMethod yX7_start, .selects RX7 yX7_start yX7_start, .initialized RX7]) (by decide +kernel) (fun _ h => List.mem_cons_of_mem _ (List.mem_append_right _ (List.mem_append_left _ h))) gW_e_start
set_option maxHeartbeats 4000000 in
set_option maxRecDepth 100000 in
theorem e_mstart (l : Launch) (D : va_G) (cI cB cZ : ClassId) (h0 : Nat) (s0 : Nat) (s1 : Nat) (p0 : Nat) (b2 : Nat) (v1 : Int32) (v2 : Int32) (v3 : Int32) (v4 : Value) (w0 : Value) (w1 : Value) (w3 : Value) (f : Nat → Int32) (cf : Nat → Int32) (x : Int32)  : gMv l yX3_start wsP_e_mstart ({ frames := 2, cells := 0, slots := 0, locals := 61 }) D cI cB cZ [] [.ref h0, .ref p0, .int x] [(h0, .inr (3, [.ref s0, .int v1, .int v2, .int v3, v4])), (s0, .inr (7, [.ref s1])), (s1, .inl (cI, 34, .inl f)), (p0, .inr (4, [w0, w1, .ref b2, w3])), (b2, .inl (cI, 4, .inl cf))] (fun w9 => w9 = [(h0, .inr (3, [.ref s0, .int 1, .int 0, .int x, v4])), (s0, .inr (7, [.ref s1])), (s1, .inl (cI, 34, .inl (gS0 cf))), (p0, .inr (4, [w0, w1, .ref b2, w3])), (b2, .inl (cI, 4, .inl cf))]) := by
  refine gMv.of (cc := cX3_start) (maxL := 3) (ret := none) (by decide) rfl (Nat.le_of_ble_eq_true rfl) (fun p e s m below meth c A ls hx hb hr hlk hml hts hown hin hA hP hK hD hS hN hl => ?_)
  have hown : s.vm.findClass RX3 = some m.cls := hown
  have hl : lv_has ls 3 [(0, .ref h0), (1, .ref p0), (2, .int x)] := hl
  refine lv_aload_n hx hb dX3_start_0 rfl (lv_at hl 0 rfl) ?_
  refine lv_iconst (v := 1) hx hb dX3_start_1 (by decide) ?_
  refine va_put (D := D) (ci := 3) (v := .int 1) (ty := .boolean) (C := RX3) (T := TX3) (N := 5) hx hb hts (fun _ h => List.mem_cons_of_mem _ (List.mem_append_left _ (List.mem_append_right _ h))) tyX3 tyX3_ok nmX3 hown hK hP hD hS 0 rfl rfl 1 (by decide) (hts (.fieldLink RX3 22 "LitmusHall$Machine" "stands" "Z") (by decide +kernel)) (fun _ h9 => h9) rfl (by decide +kernel) rfl rfl (Nat.le_of_ble_eq_true rfl) dX3_start_2 (fun H locs hP hD hS => ?_)
  have hP : va_P D vwCl [(h0, .inr (3, [.ref s0, .int 1, .int v2, .int v3, v4])), (s0, .inr (7, [.ref s1])), (s1, .inl (cI, 34, .inl f)), (p0, .inr (4, [w0, w1, .ref b2, w3])), (b2, .inl (cI, 4, .inl cf))] H := hP
  have hD : va_D A [(h0, .inr (3, [.ref s0, .int 1, .int v2, .int v3, v4])), (s0, .inr (7, [.ref s1])), (s1, .inl (cI, 34, .inl f)), (p0, .inr (4, [w0, w1, .ref b2, w3])), (b2, .inl (cI, 4, .inl cf))] := hD
  refine lv_aload_n hx hb dX3_start_5 rfl (lv_at hl 0 rfl) ?_
  refine lv_iload_n hx hb dX3_start_6 rfl (lv_at hl 2 rfl) ?_
  refine va_put (D := D) (ci := 3) (v := .int x) (ty := .int) (C := RX3) (T := TX3) (N := 5) hx hb hts (fun _ h => List.mem_cons_of_mem _ (List.mem_append_left _ (List.mem_append_right _ h))) tyX3 tyX3_ok nmX3 hown hK hP hD hS 0 rfl rfl 3 (by decide) (hts (.fieldLink RX3 26 "LitmusHall$Machine" "mode" "I") (by decide +kernel)) (fun _ h9 => h9) rfl (by decide +kernel) rfl rfl (Nat.le_of_ble_eq_true rfl) dX3_start_7 (fun H locs hP hD hS => ?_)
  have hP : va_P D vwCl [(h0, .inr (3, [.ref s0, .int 1, .int v2, .int x, v4])), (s0, .inr (7, [.ref s1])), (s1, .inl (cI, 34, .inl f)), (p0, .inr (4, [w0, w1, .ref b2, w3])), (b2, .inl (cI, 4, .inl cf))] H := hP
  have hD : va_D A [(h0, .inr (3, [.ref s0, .int 1, .int v2, .int x, v4])), (s0, .inr (7, [.ref s1])), (s1, .inl (cI, 34, .inl f)), (p0, .inr (4, [w0, w1, .ref b2, w3])), (b2, .inl (cI, 4, .inl cf))] := hD
  refine lv_aload_n hx hb dX3_start_10 rfl (lv_at hl 0 rfl) ?_
  refine lv_iconst (v := 0) hx hb dX3_start_11 (by decide) ?_
  refine va_put (D := D) (ci := 3) (v := .int 0) (ty := .int) (C := RX3) (T := TX3) (N := 5) hx hb hts (fun _ h => List.mem_cons_of_mem _ (List.mem_append_left _ (List.mem_append_right _ h))) tyX3 tyX3_ok nmX3 hown hK hP hD hS 0 rfl rfl 2 (by decide) (hts (.fieldLink RX3 30 "LitmusHall$Machine" "steps" "I") (by decide +kernel)) (fun _ h9 => h9) rfl (by decide +kernel) rfl rfl (Nat.le_of_ble_eq_true rfl) dX3_start_12 (fun H locs hP hD hS => ?_)
  have hP : va_P D vwCl [(h0, .inr (3, [.ref s0, .int 1, .int 0, .int x, v4])), (s0, .inr (7, [.ref s1])), (s1, .inl (cI, 34, .inl f)), (p0, .inr (4, [w0, w1, .ref b2, w3])), (b2, .inl (cI, 4, .inl cf))] H := hP
  have hD : va_D A [(h0, .inr (3, [.ref s0, .int 1, .int 0, .int x, v4])), (s0, .inr (7, [.ref s1])), (s1, .inl (cI, 34, .inl f)), (p0, .inr (4, [w0, w1, .ref b2, w3])), (b2, .inl (cI, 4, .inl cf))] := hD
  refine lv_aload_n hx hb dX3_start_15 rfl (lv_at hl 0 rfl) ?_
  refine va_get (D := D) (ci := 3) (v := .ref s0) (C := RX3) (T := TX3) (N := 5) hx hb hts (fun _ h => List.mem_cons_of_mem _ (List.mem_append_left _ (List.mem_append_right _ h))) hown hK hP 0 rfl rfl 0 (by decide) (hts (.fieldLink RX3 12 "LitmusHall$Machine" "state" "LLitmusHall$State;") (by decide +kernel)) (fun _ h9 => h9) rfl dX3_start_16 ?_
  refine lv_aload_n hx hb dX3_start_19 rfl (lv_at hl 1 rfl) ?_
  refine gx_gov (wc := [(s0, .inr (7, [.ref s1])), (s1, .inl (cI, 34, .inl f)), (p0, .inr (4, [w0, w1, .ref b2, w3])), (b2, .inl (cI, 4, .inl cf))]) (wr := [(h0, .inr (3, [.ref s0, .int 1, .int 0, .int x, v4]))]) (va_runV (As := [.ref p0]) (rest := []) ⟨hx, hb, hml, hown, hts⟩ (e_start l D cI cB cZ s0 s1 f p0 b2 (w0) (w1) (w3) cf _) (cwV 1 hts gP_e_mstart__e_start rfl rfl rfl (by decide +kernel) ⟨Nat.le_of_ble_eq_true rfl, Nat.le_of_ble_eq_true rfl⟩) (gx_preV (ci := 7) (q0 := 0) hK gN.nil hP hD [1, 2, 3, 4] rfl rfl rfl rfl) rfl rfl hl.1 rfl (lv_room (Nat.le_of_ble_eq_true rfl)) dX3_start_20 ⟨Nat.le_of_ble_eq_true rfl, Nat.le_of_ble_eq_true rfl⟩) hP hD hS hA [1, 2, 3, 4] [0] rfl rfl rfl (by decide) (fun w1 H locs hp hP hD hS => ?_)
  obtain ⟨rfl⟩ := hp
  exact gx_vret (w' := [(h0, .inr (3, [.ref s0, .int 1, .int 0, .int x, v4])), (s0, .inr (7, [.ref s1])), (s1, .inl (cI, 34, .inl (gS0 cf))), (p0, .inr (4, [w0, w1, .ref b2, w3])), (b2, .inl (cI, 4, .inl cf))]) hx hb hr hlk hK hP hD hS (Nat.le_of_ble_eq_true rfl) (Nat.le_of_ble_eq_true rfl) dX3_start_23 rfl
