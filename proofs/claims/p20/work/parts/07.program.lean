theorem dJ7_fill_53178_0 : decode cJ7_fill_53178 0 = .ok (.iconst 0, 1) := by decide +kernel
theorem dJ7_fill_53178_1 : decode cJ7_fill_53178 1 = .ok (.istore_n 2, 1) := by decide +kernel
theorem dJ7_fill_53178_10 : decode cJ7_fill_53178 10 = .ok (.aload_n 0, 1) := by decide +kernel
theorem dJ7_fill_53178_11 : decode cJ7_fill_53178 11 = .ok (.iload_n 2, 1) := by decide +kernel
theorem dJ7_fill_53178_12 : decode cJ7_fill_53178 12 = .ok (.iload_n 1, 1) := by decide +kernel
theorem dJ7_fill_53178_13 : decode cJ7_fill_53178 13 = .ok (.iastore, 1) := by decide +kernel
theorem dJ7_fill_53178_14 : decode cJ7_fill_53178 14 = .ok (.iinc 2 1, 3) := by decide +kernel
theorem dJ7_fill_53178_17 : decode cJ7_fill_53178 17 = .ok (.goto (-12), 3) := by decide +kernel
theorem dJ7_fill_53178_2 : decode cJ7_fill_53178 2 = .ok (.aload_n 0, 1) := by decide +kernel
theorem dJ7_fill_53178_20 : decode cJ7_fill_53178 20 = .ok (.return_, 1) := by decide +kernel
theorem dJ7_fill_53178_3 : decode cJ7_fill_53178 3 = .ok (.arraylength, 1) := by decide +kernel
theorem dJ7_fill_53178_4 : decode cJ7_fill_53178 4 = .ok (.istore_n 3, 1) := by decide +kernel
theorem dJ7_fill_53178_5 : decode cJ7_fill_53178 5 = .ok (.iload_n 2, 1) := by decide +kernel
theorem dJ7_fill_53178_6 : decode cJ7_fill_53178 6 = .ok (.iload_n 3, 1) := by decide +kernel
theorem dJ7_fill_53178_7 : decode cJ7_fill_53178 7 = .ok (.if_icmp .ge 13, 3) := by decide +kernel
theorem dX4_clear_0 : decode cX4_clear 0 = .ok (.aload_n 0, 1) := by decide +kernel
theorem dX4_clear_1 : decode cX4_clear 1 = .ok (.iconst 0, 1) := by decide +kernel
theorem dX4_clear_10 : decode cX4_clear 10 = .ok (.invokestatic 25, 3) := by decide +kernel
theorem dX4_clear_13 : decode cX4_clear 13 = .ok (.aload_n 0, 1) := by decide +kernel
theorem dX4_clear_14 : decode cX4_clear 14 = .ok (.getfield 15, 3) := by decide +kernel
theorem dX4_clear_17 : decode cX4_clear 17 = .ok (.iconst 0, 1) := by decide +kernel
theorem dX4_clear_18 : decode cX4_clear 18 = .ok (.invokestatic 25, 3) := by decide +kernel
theorem dX4_clear_2 : decode cX4_clear 2 = .ok (.putfield 21, 3) := by decide +kernel
theorem dX4_clear_21 : decode cX4_clear 21 = .ok (.return_, 1) := by decide +kernel
theorem dX4_clear_5 : decode cX4_clear 5 = .ok (.aload_n 0, 1) := by decide +kernel
theorem dX4_clear_6 : decode cX4_clear 6 = .ok (.getfield 9, 3) := by decide +kernel
theorem dX4_clear_9 : decode cX4_clear 9 = .ok (.iconst 0, 1) := by decide +kernel
theorem dX4_hasRoom_0 : decode cX4_hasRoom 0 = .ok (.aload_n 0, 1) := by decide +kernel
theorem dX4_hasRoom_1 : decode cX4_hasRoom 1 = .ok (.getfield 9, 3) := by decide +kernel
theorem dX4_hasRoom_11 : decode cX4_hasRoom 11 = .ok (.iconst 1, 1) := by decide +kernel
theorem dX4_hasRoom_12 : decode cX4_hasRoom 12 = .ok (.goto 4, 3) := by decide +kernel
theorem dX4_hasRoom_15 : decode cX4_hasRoom 15 = .ok (.iconst 0, 1) := by decide +kernel
theorem dX4_hasRoom_16 : decode cX4_hasRoom 16 = .ok (.ireturn, 1) := by decide +kernel
theorem dX4_hasRoom_4 : decode cX4_hasRoom 4 = .ok (.iload_n 1, 1) := by decide +kernel
theorem dX4_hasRoom_5 : decode cX4_hasRoom 5 = .ok (.iaload, 1) := by decide +kernel
theorem dX4_hasRoom_6 : decode cX4_hasRoom 6 = .ok (.bipush 8, 2) := by decide +kernel
theorem dX4_hasRoom_8 : decode cX4_hasRoom 8 = .ok (.if_icmp .ge 7, 3) := by decide +kernel
theorem dX4_insInAll_0 : decode cX4_insInAll 0 = .ok (.iconst 0, 1) := by decide +kernel
theorem dX4_insInAll_1 : decode cX4_insInAll 1 = .ok (.istore_n 1, 1) := by decide +kernel
theorem dX4_insInAll_12 : decode cX4_insInAll 12 = .ok (.iload_n 1, 1) := by decide +kernel
theorem dX4_insInAll_13 : decode cX4_insInAll 13 = .ok (.aload_n 0, 1) := by decide +kernel
theorem dX4_insInAll_14 : decode cX4_insInAll 14 = .ok (.getfield 9, 3) := by decide +kernel
theorem dX4_insInAll_17 : decode cX4_insInAll 17 = .ok (.iload_n 2, 1) := by decide +kernel
theorem dX4_insInAll_18 : decode cX4_insInAll 18 = .ok (.iaload, 1) := by decide +kernel
theorem dX4_insInAll_19 : decode cX4_insInAll 19 = .ok (.iadd, 1) := by decide +kernel
theorem dX4_insInAll_2 : decode cX4_insInAll 2 = .ok (.iconst 0, 1) := by decide +kernel
theorem dX4_insInAll_20 : decode cX4_insInAll 20 = .ok (.istore_n 1, 1) := by decide +kernel
theorem dX4_insInAll_21 : decode cX4_insInAll 21 = .ok (.iinc 2 1, 3) := by decide +kernel
theorem dX4_insInAll_24 : decode cX4_insInAll 24 = .ok (.goto (-20), 3) := by decide +kernel
theorem dX4_insInAll_27 : decode cX4_insInAll 27 = .ok (.iload_n 1, 1) := by decide +kernel
theorem dX4_insInAll_28 : decode cX4_insInAll 28 = .ok (.ireturn, 1) := by decide +kernel
theorem dX4_insInAll_3 : decode cX4_insInAll 3 = .ok (.istore_n 2, 1) := by decide +kernel
theorem dX4_insInAll_4 : decode cX4_insInAll 4 = .ok (.iload_n 2, 1) := by decide +kernel
theorem dX4_insInAll_5 : decode cX4_insInAll 5 = .ok (.aload_n 0, 1) := by decide +kernel
theorem dX4_insInAll_6 : decode cX4_insInAll 6 = .ok (.getfield 21, 3) := by decide +kernel
theorem dX4_insInAll_9 : decode cX4_insInAll 9 = .ok (.if_icmp .ge 18, 3) := by decide +kernel
theorem dX4_part_0 : decode cX4_part 0 = .ok (.aload_n 0, 1) := by decide +kernel
theorem dX4_part_1 : decode cX4_part 1 = .ok (.getfield 18, 3) := by decide +kernel
theorem dX4_part_10 : decode cX4_part 10 = .ok (.iadd, 1) := by decide +kernel
theorem dX4_part_11 : decode cX4_part 11 = .ok (.iaload, 1) := by decide +kernel
theorem dX4_part_12 : decode cX4_part 12 = .ok (.ireturn, 1) := by decide +kernel
theorem dX4_part_4 : decode cX4_part 4 = .ok (.iload_n 1, 1) := by decide +kernel
theorem dX4_part_5 : decode cX4_part 5 = .ok (.iload_n 2, 1) := by decide +kernel
theorem dX4_part_6 : decode cX4_part 6 = .ok (.invokestatic 31, 3) := by decide +kernel
theorem dX4_part_9 : decode cX4_part 9 = .ok (.iload_n 3, 1) := by decide +kernel
theorem dX4_partsAt_0 : decode cX4_partsAt 0 = .ok (.iload_n 0, 1) := by decide +kernel
theorem dX4_partsAt_1 : decode cX4_partsAt 1 = .ok (.bipush 8, 2) := by decide +kernel
theorem dX4_partsAt_3 : decode cX4_partsAt 3 = .ok (.imul, 1) := by decide +kernel
theorem dX4_partsAt_4 : decode cX4_partsAt 4 = .ok (.iload_n 1, 1) := by decide +kernel
theorem dX4_partsAt_5 : decode cX4_partsAt 5 = .ok (.iadd, 1) := by decide +kernel
theorem dX4_partsAt_6 : decode cX4_partsAt 6 = .ok (.bipush 8, 2) := by decide +kernel
theorem dX4_partsAt_8 : decode cX4_partsAt 8 = .ok (.imul, 1) := by decide +kernel
theorem dX4_partsAt_9 : decode cX4_partsAt 9 = .ok (.ireturn, 1) := by decide +kernel
theorem dX4_placesInAll_0 : decode cX4_placesInAll 0 = .ok (.iconst 0, 1) := by decide +kernel
theorem dX4_placesInAll_1 : decode cX4_placesInAll 1 = .ok (.istore_n 1, 1) := by decide +kernel
theorem dX4_placesInAll_12 : decode cX4_placesInAll 12 = .ok (.iload_n 1, 1) := by decide +kernel
theorem dX4_placesInAll_13 : decode cX4_placesInAll 13 = .ok (.iconst 0, 1) := by decide +kernel
theorem dX4_placesInAll_14 : decode cX4_placesInAll 14 = .ok (.aload_n 0, 1) := by decide +kernel
theorem dX4_placesInAll_15 : decode cX4_placesInAll 15 = .ok (.getfield 9, 3) := by decide +kernel
theorem dX4_placesInAll_18 : decode cX4_placesInAll 18 = .ok (.iload_n 2, 1) := by decide +kernel
theorem dX4_placesInAll_19 : decode cX4_placesInAll 19 = .ok (.iaload, 1) := by decide +kernel
theorem dX4_placesInAll_2 : decode cX4_placesInAll 2 = .ok (.iconst 0, 1) := by decide +kernel
theorem dX4_placesInAll_20 : decode cX4_placesInAll 20 = .ok (.iconst 1, 1) := by decide +kernel
theorem dX4_placesInAll_21 : decode cX4_placesInAll 21 = .ok (.isub, 1) := by decide +kernel
theorem dX4_placesInAll_22 : decode cX4_placesInAll 22 = .ok (.invokestatic 35, 3) := by decide +kernel
theorem dX4_placesInAll_25 : decode cX4_placesInAll 25 = .ok (.iadd, 1) := by decide +kernel
theorem dX4_placesInAll_26 : decode cX4_placesInAll 26 = .ok (.istore_n 1, 1) := by decide +kernel
theorem dX4_placesInAll_27 : decode cX4_placesInAll 27 = .ok (.iinc 2 1, 3) := by decide +kernel
theorem dX4_placesInAll_3 : decode cX4_placesInAll 3 = .ok (.istore_n 2, 1) := by decide +kernel
theorem dX4_placesInAll_30 : decode cX4_placesInAll 30 = .ok (.goto (-26), 3) := by decide +kernel
theorem dX4_placesInAll_33 : decode cX4_placesInAll 33 = .ok (.iload_n 1, 1) := by decide +kernel
theorem dX4_placesInAll_34 : decode cX4_placesInAll 34 = .ok (.ireturn, 1) := by decide +kernel
theorem dX4_placesInAll_4 : decode cX4_placesInAll 4 = .ok (.iload_n 2, 1) := by decide +kernel
theorem dX4_placesInAll_5 : decode cX4_placesInAll 5 = .ok (.aload_n 0, 1) := by decide +kernel
theorem dX4_placesInAll_6 : decode cX4_placesInAll 6 = .ok (.getfield 21, 3) := by decide +kernel
theorem dX4_placesInAll_9 : decode cX4_placesInAll 9 = .ok (.if_icmp .ge 24, 3) := by decide +kernel
def wsP_c_fill : List Cond := .code yJ7_fill_53178 cJ7_fill_53178 4 none :: ([])
set_option maxHeartbeats 4000000 in
set_option maxRecDepth 100000 in
theorem c_fill (l : Launch) (D : va_G) (cI cB cZ : ClassId) (a : Nat) (n : Nat) (f : Nat → Int32) (x : Int32) (hn : n < 2 ^ 31) : gMv l yJ7_fill_53178 wsP_c_fill ({ frames := 0, cells := 0, slots := 0, locals := 0 }) D cI cB cZ [] [.ref a, .int x] [(a, .inl (cI, n, .inl f))] (fun w9 => ∃ g : Nat → Int32, (∀ j, j < n → g j = x) ∧ w9 = [(a, .inl (cI, n, .inl g))]) := by
  refine gMv.of (cc := cJ7_fill_53178) (maxL := 4) (ret := none) (by decide) rfl (Nat.le_of_ble_eq_true rfl) (fun p e s m below meth c A ls hx hb hr hlk hml hts hown hin hA hP hK hD hS hN hl => ?_)
  have hown : s.vm.findClass RJ7 = some m.cls := hown
  have hl : lv_has ls 4 [(0, .ref a), (1, .int x)] := hl
  refine lv_iconst (v := 0) hx hb dJ7_fill_53178_0 (by decide) ?_
  refine lv_istore_n (lv' := [(2, .int 0), (0, .ref a), (1, .int x)]) hx hb dJ7_fill_53178_1 rfl hl (by decide) rfl (fun ls hl => ?_)
  refine lv_aload_n hx hb dJ7_fill_53178_2 rfl (lv_at hl 1 rfl) ?_
  refine va_alen (v := nI n) hx hb hK hP 0 0 rfl rfl rfl dJ7_fill_53178_3 ?_
  refine lv_istore_n (lv' := [(3, .int (nI n)), (2, .int 0), (0, .ref a), (1, .int x)]) hx hb dJ7_fill_53178_4 rfl hl (by decide) rfl (fun ls hl => ?_)
  refine gy_loop0 (I := fun (x9 : Nat × (Nat → Int32)) H locs ls => (x9.1 ≤ n) ∧ (∀ j, j < x9.1 → x9.2 j = x) ∧ va_P D vwCl [(a, .inl (cI, n, .inl x9.2))] H ∧ va_D A [(a, .inl (cI, n, .inl x9.2))] ∧ va_S A s.heap H locs ∧ lv_has ls 4 [(3, .int (nI n)), (2, .int (nI x9.1)), (0, .ref a), (1, .int x)]) (μ := fun (x9 : Nat × (Nat → Int32)) => n - x9.1) (fun x9 H locs ls hI ih5 => ?_) (0, f) ⟨(by omega), (fun j h => absurd h (Nat.not_lt_zero j)), hP, hD, hS, lv_sub hl [0, 1, 2, 3] rfl⟩
  obtain ⟨i, g⟩ := x9
  obtain ⟨hi5_0, hi5_1, hP, hD, hS, hl⟩ := hI
  have hi5_0 : i ≤ n := hi5_0
  have hi5_1 : ∀ j, j < i → g j = x := hi5_1
  have hP : va_P D vwCl [(a, .inl (cI, n, .inl g))] H := hP
  have hD : va_D A [(a, .inl (cI, n, .inl g))] := hD
  have hS : va_S A s.heap H locs := hS
  have hl : lv_has ls 4 [(3, .int (nI n)), (2, .int (nI i)), (0, .ref a), (1, .int x)] := hl
  refine lv_iload_n hx hb dJ7_fill_53178_5 rfl (lv_at hl 1 rfl) ?_
  refine lv_iload_n hx hb dJ7_fill_53178_6 rfl (lv_at hl 0 rfl) ?_
  refine gy_ge (a := i) (b := n) (tgt := 20) hx hb (by omega) (by omega) dJ7_fill_53178_7 (by decide) (fun c_1 => ?_) (fun c_1 => ?_)
  · exact gx_vret (w' := [(a, .inl (cI, n, .inl g))]) hx hb hr hlk hK hP hD hS (Nat.le_of_ble_eq_true rfl) (Nat.le_of_ble_eq_true rfl) dJ7_fill_53178_20 ⟨g, (fun j h => hi5_1 j (by omega)), rfl⟩
  · refine lv_aload_n hx hb dJ7_fill_53178_10 rfl (lv_at hl 2 rfl) ?_
    refine lv_iload_n hx hb dJ7_fill_53178_11 rfl (lv_at hl 1 rfl) ?_
    refine lv_iload_n hx hb dJ7_fill_53178_12 rfl (lv_at hl 3 rfl) ?_
    refine gy_ist (i := i) hx hb hK hP hD hS 0 rfl (by omega) (by omega) dJ7_fill_53178_13 (fun H locs hP hD hS => ?_)
    have hP : va_P D vwCl [(a, .inl (cI, n, .inl (upd g i x)))] H := hP
    have hD : va_D A [(a, .inl (cI, n, .inl (upd g i x)))] := hD
    refine lv_iinc (v := nI (i + 1)) (lv' := [(2, .int (nI (i + 1))), (3, .int (nI n)), (0, .ref a), (1, .int x)]) hx hb dJ7_fill_53178_14 hl (k := 1) rfl (nI_add i 1) (by decide) rfl (fun ls hl => ?_)
    refine lv_goto (tgt := 5) hx hb dJ7_fill_53178_17 (by decide) ?_
    exact ih5 ((i + 1), (upd g i x)) H locs ls ⟨(by omega), (gy_fillp hi5_1), hP, hD, hS, lv_sub hl [1, 0, 2, 3] rfl⟩ (by show n - (i + 1) < n - i; omega)
def wsP_c_clear : List Cond := .code yX4_clear cX4_clear 1 none :: ([.fieldLink RX4 21 "LitmusHall$Program" "cores" "I", .fieldLink RX4 9 "LitmusHall$Program" "lengths" "[I", .methodLink RX4 25 yJ7_fill_53178, .static yJ7_fill_53178, .initialized RJ7, .code yJ7_fill_53178 cJ7_fill_53178 4 none, .fieldLink RX4 15 "LitmusHall$Program" "cells" "[I"] ++ wsX40)
set_option maxRecDepth 20000 in
theorem gP_c_clear__c_fill : GoodIn wsP_c_clear (va_wsS RX4 25 yJ7_fill_53178 wsP_c_fill) := goodIn_r _ [3, 4, 5, 6] (by decide +kernel) (by decide +kernel)
set_option maxHeartbeats 4000000 in
set_option maxRecDepth 100000 in
theorem c_clear (l : Launch) (D : va_G) (cI cB cZ : ClassId) (h0 : Nat) (a1 : Nat) (a2 : Nat) (v3 : Value) (c0 : Int32) (L : Nat → Nat) (cf : Nat → Int32)  : gMv l yX4_clear wsP_c_clear ({ frames := 1, cells := 0, slots := 0, locals := 23 }) D cI cB cZ [] [.ref h0] [(h0, .inr (4, [.int c0, .ref a1, .ref a2, v3])), (a1, .inl (cI, 3, .inl (fun j => nI (L j)))), (a2, .inl (cI, 4, .inl cf))] (fun w9 => w9 = [(h0, .inr (4, [.int 0, .ref a1, .ref a2, v3])), (a1, .inl (cI, 3, .inl (fun j => nI ((fun _ => 0) j)))), (a2, .inl (cI, 4, .inl (fun _ => 0)))]) := by
  refine gMv.of (cc := cX4_clear) (maxL := 1) (ret := none) (by decide) rfl (Nat.le_of_ble_eq_true rfl) (fun p e s m below meth c A ls hx hb hr hlk hml hts hown hin hA hP hK hD hS hN hl => ?_)
  have hown : s.vm.findClass RX4 = some m.cls := hown
  have hl : lv_has ls 1 [(0, .ref h0)] := hl
  refine lv_aload_n hx hb dX4_clear_0 rfl (lv_at hl 0 rfl) ?_
  refine lv_iconst (v := 0) hx hb dX4_clear_1 (by decide) ?_
  refine va_put (D := D) (ci := 4) (v := .int 0) (ty := .int) (C := RX4) (T := TX4) (N := 4) hx hb hts (fun _ h => List.mem_cons_of_mem _ (List.mem_append_right _ h)) tyX4 tyX4_ok nmX4 hown hK hP hD hS 0 rfl rfl 0 (by decide) (hts (.fieldLink RX4 21 "LitmusHall$Program" "cores" "I") (by decide +kernel)) (fun _ h9 => h9) rfl (by decide +kernel) rfl rfl (Nat.le_of_ble_eq_true rfl) dX4_clear_2 (fun H locs hP hD hS => ?_)
  have hP : va_P D vwCl [(h0, .inr (4, [.int 0, .ref a1, .ref a2, v3])), (a1, .inl (cI, 3, .inl (fun j => nI (L j)))), (a2, .inl (cI, 4, .inl cf))] H := hP
  have hD : va_D A [(h0, .inr (4, [.int 0, .ref a1, .ref a2, v3])), (a1, .inl (cI, 3, .inl (fun j => nI (L j)))), (a2, .inl (cI, 4, .inl cf))] := hD
  refine lv_aload_n hx hb dX4_clear_5 rfl (lv_at hl 0 rfl) ?_
  refine va_get (D := D) (ci := 4) (v := .ref a1) (C := RX4) (T := TX4) (N := 4) hx hb hts (fun _ h => List.mem_cons_of_mem _ (List.mem_append_right _ h)) hown hK hP 0 rfl rfl 1 (by decide) (hts (.fieldLink RX4 9 "LitmusHall$Program" "lengths" "[I") (by decide +kernel)) (fun _ h9 => h9) rfl dX4_clear_6 ?_
  refine lv_iconst (v := 0) hx hb dX4_clear_9 (by decide) ?_
  refine gx_gov (wc := [(a1, .inl (cI, 3, .inl (fun j => nI (L j))))]) (wr := [(h0, .inr (4, [.int 0, .ref a1, .ref a2, v3])), (a2, .inl (cI, 4, .inl cf))]) (va_runS (As := [.ref a1, .int 0]) (rest := []) ⟨hx, hb, hml, hown, hts⟩ (c_fill l D cI cB cZ a1 3 (fun j => nI (L j)) 0 (by omega) _) (va_cwS 2 hts gP_c_clear__c_fill rfl rfl rfl (by decide +kernel) ⟨Nat.le_of_ble_eq_true rfl, Nat.le_of_ble_eq_true rfl⟩) (gx_preS hK gN.nil hP hD [1] rfl rfl) rfl rfl hl.1 rfl (lv_room (Nat.le_of_ble_eq_true rfl)) dX4_clear_10 ⟨Nat.le_of_ble_eq_true rfl, Nat.le_of_ble_eq_true rfl⟩) hP hD hS hA [1] [0, 2] rfl rfl rfl (by decide) (fun w1 H locs hp hP hD hS => ?_)
  obtain ⟨e_1, hq_2, rfl⟩ := hp
  have hq_2 : ∀ j, j < 3 → e_1 j = 0 := hq_2
  have hP : va_P D vwCl [(h0, .inr (4, [.int 0, .ref a1, .ref a2, v3])), (a2, .inl (cI, 4, .inl cf)), (a1, .inl (cI, 3, .inl e_1))] H := hP
  have hD : va_D A [(h0, .inr (4, [.int 0, .ref a1, .ref a2, v3])), (a2, .inl (cI, 4, .inl cf)), (a1, .inl (cI, 3, .inl e_1))] := hD
  have hP := gy_ext hP 2 rfl (fun j => nI ((fun _ => 0) j)) (fun j h => hq_2 j h)
  have hD := gy_extD (y := .inl (cI, 3, .inl (fun j => nI ((fun _ => 0) j)))) hD 2 rfl
  have hP : va_P D vwCl [(h0, .inr (4, [.int 0, .ref a1, .ref a2, v3])), (a2, .inl (cI, 4, .inl cf)), (a1, .inl (cI, 3, .inl (fun j => nI ((fun _ => 0) j))))] H := hP
  have hD : va_D A [(h0, .inr (4, [.int 0, .ref a1, .ref a2, v3])), (a2, .inl (cI, 4, .inl cf)), (a1, .inl (cI, 3, .inl (fun j => nI ((fun _ => 0) j))))] := hD
  refine lv_aload_n hx hb dX4_clear_13 rfl (lv_at hl 0 rfl) ?_
  refine va_get (D := D) (ci := 4) (v := .ref a2) (C := RX4) (T := TX4) (N := 4) hx hb hts (fun _ h => List.mem_cons_of_mem _ (List.mem_append_right _ h)) hown hK hP 0 rfl rfl 2 (by decide) (hts (.fieldLink RX4 15 "LitmusHall$Program" "cells" "[I") (by decide +kernel)) (fun _ h9 => h9) rfl dX4_clear_14 ?_
  refine lv_iconst (v := 0) hx hb dX4_clear_17 (by decide) ?_
  refine gx_gov (wc := [(a2, .inl (cI, 4, .inl cf))]) (wr := [(h0, .inr (4, [.int 0, .ref a1, .ref a2, v3])), (a1, .inl (cI, 3, .inl (fun j => nI ((fun _ => 0) j))))]) (va_runS (As := [.ref a2, .int 0]) (rest := []) ⟨hx, hb, hml, hown, hts⟩ (c_fill l D cI cB cZ a2 4 cf 0 (by omega) _) (va_cwS 2 hts gP_c_clear__c_fill rfl rfl rfl (by decide +kernel) ⟨Nat.le_of_ble_eq_true rfl, Nat.le_of_ble_eq_true rfl⟩) (gx_preS hK gN.nil hP hD [1] rfl rfl) rfl rfl hl.1 rfl (lv_room (Nat.le_of_ble_eq_true rfl)) dX4_clear_18 ⟨Nat.le_of_ble_eq_true rfl, Nat.le_of_ble_eq_true rfl⟩) hP hD hS hA [1] [0, 2] rfl rfl rfl (by decide) (fun w1 H locs hp hP hD hS => ?_)
  obtain ⟨e_3, hq_4, rfl⟩ := hp
  have hq_4 : ∀ j, j < 4 → e_3 j = 0 := hq_4
  have hP : va_P D vwCl [(h0, .inr (4, [.int 0, .ref a1, .ref a2, v3])), (a1, .inl (cI, 3, .inl (fun j => nI ((fun _ => 0) j)))), (a2, .inl (cI, 4, .inl e_3))] H := hP
  have hD : va_D A [(h0, .inr (4, [.int 0, .ref a1, .ref a2, v3])), (a1, .inl (cI, 3, .inl (fun j => nI ((fun _ => 0) j)))), (a2, .inl (cI, 4, .inl e_3))] := hD
  have hP := gy_ext hP 2 rfl (fun _ => 0) (fun j h => hq_4 j h)
  have hD := gy_extD (y := .inl (cI, 4, .inl (fun _ => 0))) hD 2 rfl
  have hP : va_P D vwCl [(h0, .inr (4, [.int 0, .ref a1, .ref a2, v3])), (a1, .inl (cI, 3, .inl (fun j => nI ((fun _ => 0) j)))), (a2, .inl (cI, 4, .inl (fun _ => 0)))] H := hP
  have hD : va_D A [(h0, .inr (4, [.int 0, .ref a1, .ref a2, v3])), (a1, .inl (cI, 3, .inl (fun j => nI ((fun _ => 0) j)))), (a2, .inl (cI, 4, .inl (fun _ => 0)))] := hD
  exact gx_vret (w' := [(h0, .inr (4, [.int 0, .ref a1, .ref a2, v3])), (a1, .inl (cI, 3, .inl (fun j => nI ((fun _ => 0) j)))), (a2, .inl (cI, 4, .inl (fun _ => 0)))]) hx hb hr hlk hK hP hD hS (Nat.le_of_ble_eq_true rfl) (Nat.le_of_ble_eq_true rfl) dX4_clear_21 rfl
def wsP_c_partsAt : List Cond := .code yX4_partsAt cX4_partsAt 2 (some .int) :: ([])
set_option maxHeartbeats 4000000 in
set_option maxRecDepth 100000 in
theorem c_partsAt (l : Launch) (D : va_G) (cI cB cZ : ClassId) (k : Nat) (i : Nat)  : gMi l yX4_partsAt wsP_c_partsAt ({ frames := 0, cells := 0, slots := 0, locals := 0 }) D cI cB cZ [] [.int (nI k), .int (nI i)] [] (fun r9 w9 => r9 = (nI (((k * 8) + i) * 8)) ∧ w9 = []) := by
  refine gMi.of (cc := cX4_partsAt) (maxL := 2) (ret := (some .int)) (by decide) rfl (Nat.le_of_ble_eq_true rfl) (fun p e s m below meth c A ls hx hb hr hlk hml hts hown hin hA hP hK hD hS hN hl => ?_)
  have hown : s.vm.findClass RX4 = some m.cls := hown
  have hl : lv_has ls 2 [(0, .int (nI k)), (1, .int (nI i))] := hl
  refine lv_iload_n hx hb dX4_partsAt_0 rfl (lv_at hl 0 rfl) ?_
  refine lv_bipush (v := 8) hx hb dX4_partsAt_1 (by decide) ?_
  refine lv_imul hx hb dX4_partsAt_3 ?_
  refine gx_top (y := nI (k * 8)) (pk_mul k 8) ?_
  refine lv_iload_n hx hb dX4_partsAt_4 rfl (lv_at hl 1 rfl) ?_
  refine lv_iadd hx hb dX4_partsAt_5 ?_
  refine gx_top (y := nI ((k * 8) + i)) (nI_add (k * 8) i) ?_
  refine lv_bipush (v := 8) hx hb dX4_partsAt_6 (by decide) ?_
  refine lv_imul hx hb dX4_partsAt_8 ?_
  refine gx_top (y := nI (((k * 8) + i) * 8)) (pk_mul ((k * 8) + i) 8) ?_
  exact gx_iret (w' := []) hx hb hr hlk hK hP hD hS (Nat.le_of_ble_eq_true rfl) (Nat.le_of_ble_eq_true rfl) dX4_partsAt_9 ⟨rfl, rfl⟩
def wsP_c_part : List Cond := .code yX4_part cX4_part 4 (some .int) :: ([.fieldLink RX4 18 "LitmusHall$Program" "parts" "[I", .methodLink RX4 31 yX4_partsAt, .static yX4_partsAt, .initialized RX4, .code yX4_partsAt cX4_partsAt 2 (some .int)] ++ wsX40)
set_option maxRecDepth 20000 in
theorem gP_c_part__c_partsAt : GoodIn wsP_c_part (va_wsS RX4 31 yX4_partsAt wsP_c_partsAt) := goodIn_r _ [2, 3, 4, 5] (by decide +kernel) (by decide +kernel)
set_option maxHeartbeats 4000000 in
set_option maxRecDepth 100000 in
theorem c_part (l : Launch) (D : va_G) (cI cB cZ : ClassId) (h0 : Nat) (a3 : Nat) (v0 : Value) (v1 : Value) (v2 : Value) (pf : Nat → Int32) (k : Nat) (i : Nat) (q : Nat) (hk : k < 3) (hi : i < 8) (hq : q < 8) : gMi l yX4_part wsP_c_part ({ frames := 1, cells := 0, slots := 0, locals := 21 }) D cI cB cZ [] [.ref h0, .int (nI k), .int (nI i), .int (nI q)] [(h0, .inr (4, [v0, v1, v2, .ref a3])), (a3, .inl (cI, 192, .inl pf))] (fun r9 w9 => r9 = (pf ((((k * 8) + i) * 8) + q)) ∧ w9 = [(h0, .inr (4, [v0, v1, v2, .ref a3])), (a3, .inl (cI, 192, .inl pf))]) := by
  refine gMi.of (cc := cX4_part) (maxL := 4) (ret := (some .int)) (by decide) rfl (Nat.le_of_ble_eq_true rfl) (fun p e s m below meth c A ls hx hb hr hlk hml hts hown hin hA hP hK hD hS hN hl => ?_)
  have hown : s.vm.findClass RX4 = some m.cls := hown
  have hl : lv_has ls 4 [(0, .ref h0), (1, .int (nI k)), (2, .int (nI i)), (3, .int (nI q))] := hl
  refine lv_aload_n hx hb dX4_part_0 rfl (lv_at hl 0 rfl) ?_
  refine va_get (D := D) (ci := 4) (v := .ref a3) (C := RX4) (T := TX4) (N := 4) hx hb hts (fun _ h => List.mem_cons_of_mem _ (List.mem_append_right _ h)) hown hK hP 0 rfl rfl 3 (by decide) (hts (.fieldLink RX4 18 "LitmusHall$Program" "parts" "[I") (by decide +kernel)) (fun _ h9 => h9) rfl dX4_part_1 ?_
  refine lv_iload_n hx hb dX4_part_4 rfl (lv_at hl 1 rfl) ?_
  refine lv_iload_n hx hb dX4_part_5 rfl (lv_at hl 2 rfl) ?_
  refine gx_goi (wc := []) (wr := [(h0, .inr (4, [v0, v1, v2, .ref a3])), (a3, .inl (cI, 192, .inl pf))]) (va_runS (As := [.int (nI k), .int (nI i)]) (rest := [.ref a3]) ⟨hx, hb, hml, hown, hts⟩ (c_partsAt l D cI cB cZ k i _) (va_cwS 2 hts gP_c_part__c_partsAt rfl rfl rfl (by decide +kernel) ⟨Nat.le_of_ble_eq_true rfl, Nat.le_of_ble_eq_true rfl⟩) (gx_preS hK gN.nil hP hD [] rfl rfl) rfl rfl hl.1 rfl (lv_room (Nat.le_of_ble_eq_true rfl)) dX4_part_6 ⟨Nat.le_of_ble_eq_true rfl, Nat.le_of_ble_eq_true rfl⟩) hP hD hS hA [] [0, 1] rfl rfl rfl (by decide) (fun r1 w1 H locs hp hP hD hS => ?_)
  obtain ⟨h9, rfl⟩ := hp
  have h9 := h9.symm
  subst h9
  have hP : va_P D vwCl [(h0, .inr (4, [v0, v1, v2, .ref a3])), (a3, .inl (cI, 192, .inl pf))] H := hP
  have hD : va_D A [(h0, .inr (4, [v0, v1, v2, .ref a3])), (a3, .inl (cI, 192, .inl pf))] := hD
  refine lv_iload_n hx hb dX4_part_9 rfl (lv_at hl 3 rfl) ?_
  refine lv_iadd hx hb dX4_part_10 ?_
  refine gx_top (y := nI ((((k * 8) + i) * 8) + q)) (nI_add (((k * 8) + i) * 8) q) ?_
  refine gy_ild (i := ((((k * 8) + i) * 8) + q)) hx hb hK hP 1 rfl (by omega) (by omega) dX4_part_11 ?_
  exact gx_iret (w' := [(h0, .inr (4, [v0, v1, v2, .ref a3])), (a3, .inl (cI, 192, .inl pf))]) hx hb hr hlk hK hP hD hS (Nat.le_of_ble_eq_true rfl) (Nat.le_of_ble_eq_true rfl) dX4_part_12 ⟨rfl, rfl⟩
def wsP_c_hasRoom : List Cond := .code yX4_hasRoom cX4_hasRoom 2 (some .boolean) :: ([.fieldLink RX4 9 "LitmusHall$Program" "lengths" "[I"] ++ wsX40)
set_option maxHeartbeats 4000000 in
set_option maxRecDepth 100000 in
theorem c_hasRoom (l : Launch) (D : va_G) (cI cB cZ : ClassId) (h0 : Nat) (a1 : Nat) (v0 : Value) (v2 : Value) (v3 : Value) (L : Nat → Nat) (k : Nat) (hk : k < 3) (hL : ∀ k, k < 3 → L k ≤ 8) : gMi l yX4_hasRoom wsP_c_hasRoom ({ frames := 0, cells := 0, slots := 0, locals := 0 }) D cI cB cZ [] [.ref h0, .int (nI k)] [(h0, .inr (4, [v0, .ref a1, v2, v3])), (a1, .inl (cI, 3, .inl (fun j => nI (L j))))] (fun r9 w9 => r9 = (if L k < 8 then 1 else 0) ∧ w9 = [(h0, .inr (4, [v0, .ref a1, v2, v3])), (a1, .inl (cI, 3, .inl (fun j => nI (L j))))]) := by
  refine gMi.of (cc := cX4_hasRoom) (maxL := 2) (ret := (some .boolean)) (by decide) rfl (Nat.le_of_ble_eq_true rfl) (fun p e s m below meth c A ls hx hb hr hlk hml hts hown hin hA hP hK hD hS hN hl => ?_)
  have hown : s.vm.findClass RX4 = some m.cls := hown
  have hl : lv_has ls 2 [(0, .ref h0), (1, .int (nI k))] := hl
  refine lv_aload_n hx hb dX4_hasRoom_0 rfl (lv_at hl 0 rfl) ?_
  refine va_get (D := D) (ci := 4) (v := .ref a1) (C := RX4) (T := TX4) (N := 4) hx hb hts (fun _ h => List.mem_cons_of_mem _ (List.mem_append_right _ h)) hown hK hP 0 rfl rfl 1 (by decide) (hts (.fieldLink RX4 9 "LitmusHall$Program" "lengths" "[I") (by decide +kernel)) (fun _ h9 => h9) rfl dX4_hasRoom_1 ?_
  refine lv_iload_n hx hb dX4_hasRoom_4 rfl (lv_at hl 1 rfl) ?_
  refine gy_ild (i := k) hx hb hK hP 1 rfl (by omega) (by omega) dX4_hasRoom_5 ?_
  refine gx_top (y := nI (L k)) rfl ?_
  have hL0 := hL k (by omega)
  refine lv_bipush (v := 8) hx hb dX4_hasRoom_6 (by decide) ?_
  refine gy_ge (a := (L k)) (b := 8) (tgt := 15) hx hb (by omega) (by omega) dX4_hasRoom_8 (by decide) (fun c_1 => ?_) (fun c_1 => ?_)
  · refine lv_iconst (v := 0) hx hb dX4_hasRoom_15 (by decide) ?_
    exact gx_zret (w' := [(h0, .inr (4, [v0, .ref a1, v2, v3])), (a1, .inl (cI, 3, .inl (fun j => nI (L j))))]) hx hb hr hlk hK hP hD hS (Nat.le_of_ble_eq_true rfl) (Nat.le_of_ble_eq_true rfl) dX4_hasRoom_16 rfl ⟨(by first | exact (if_pos (by omega)).symm | exact (if_neg (by omega)).symm), rfl⟩
  · refine lv_iconst (v := 1) hx hb dX4_hasRoom_11 (by decide) ?_
    refine lv_goto (tgt := 16) hx hb dX4_hasRoom_12 (by decide) ?_
    exact gx_zret (w' := [(h0, .inr (4, [v0, .ref a1, v2, v3])), (a1, .inl (cI, 3, .inl (fun j => nI (L j))))]) hx hb hr hlk hK hP hD hS (Nat.le_of_ble_eq_true rfl) (Nat.le_of_ble_eq_true rfl) dX4_hasRoom_16 rfl ⟨(by first | exact (if_pos (by omega)).symm | exact (if_neg (by omega)).symm), rfl⟩
def wsP_c_insInAll : List Cond := .code yX4_insInAll cX4_insInAll 3 (some .int) :: ([.fieldLink RX4 21 "LitmusHall$Program" "cores" "I", .fieldLink RX4 9 "LitmusHall$Program" "lengths" "[I"] ++ wsX40)
set_option maxHeartbeats 4000000 in
set_option maxRecDepth 100000 in
theorem c_insInAll (l : Launch) (D : va_G) (cI cB cZ : ClassId) (h0 : Nat) (a1 : Nat) (v2 : Value) (v3 : Value) (L : Nat → Nat) (n : Nat) (hn : n ≤ 3) (hL : ∀ k, k < 3 → L k ≤ 8) : gMi l yX4_insInAll wsP_c_insInAll ({ frames := 0, cells := 0, slots := 0, locals := 0 }) D cI cB cZ [] [.ref h0] [(h0, .inr (4, [.int (nI n), .ref a1, v2, v3])), (a1, .inl (cI, 3, .inl (fun j => nI (L j))))] (fun r9 w9 => ∃ t : Nat, (t ≤ 24) ∧ r9 = (nI t) ∧ w9 = [(h0, .inr (4, [.int (nI n), .ref a1, v2, v3])), (a1, .inl (cI, 3, .inl (fun j => nI (L j))))]) := by
  refine gMi.of (cc := cX4_insInAll) (maxL := 3) (ret := (some .int)) (by decide) rfl (Nat.le_of_ble_eq_true rfl) (fun p e s m below meth c A ls hx hb hr hlk hml hts hown hin hA hP hK hD hS hN hl => ?_)
  have hown : s.vm.findClass RX4 = some m.cls := hown
  have hl : lv_has ls 3 [(0, .ref h0)] := hl
  refine lv_iconst (v := 0) hx hb dX4_insInAll_0 (by decide) ?_
  refine lv_istore_n (lv' := [(1, .int 0), (0, .ref h0)]) hx hb dX4_insInAll_1 rfl hl (by decide) rfl (fun ls hl => ?_)
  refine lv_iconst (v := 0) hx hb dX4_insInAll_2 (by decide) ?_
  refine lv_istore_n (lv' := [(2, .int 0), (1, .int 0), (0, .ref h0)]) hx hb dX4_insInAll_3 rfl hl (by decide) rfl (fun ls hl => ?_)
  refine gy_loop0 (I := fun (x9 : Nat × Nat) H locs ls => (x9.1 ≤ n) ∧ (x9.2 ≤ 8 * x9.1) ∧ va_P D vwCl [(h0, .inr (4, [.int (nI n), .ref a1, v2, v3])), (a1, .inl (cI, 3, .inl (fun j => nI (L j))))] H ∧ va_D A [(h0, .inr (4, [.int (nI n), .ref a1, v2, v3])), (a1, .inl (cI, 3, .inl (fun j => nI (L j))))] ∧ va_S A s.heap H locs ∧ lv_has ls 3 [(2, .int (nI x9.1)), (1, .int (nI x9.2)), (0, .ref h0)]) (μ := fun (x9 : Nat × Nat) => n - x9.1) (fun x9 H locs ls hI ih4 => ?_) (0, 0) ⟨(by omega), (by omega), hP, hD, hS, lv_sub hl [0, 1, 2] rfl⟩
  obtain ⟨i, t⟩ := x9
  obtain ⟨hi4_0, hi4_1, hP, hD, hS, hl⟩ := hI
  have hi4_0 : i ≤ n := hi4_0
  have hi4_1 : t ≤ 8 * i := hi4_1
  have hP : va_P D vwCl [(h0, .inr (4, [.int (nI n), .ref a1, v2, v3])), (a1, .inl (cI, 3, .inl (fun j => nI (L j))))] H := hP
  have hD : va_D A [(h0, .inr (4, [.int (nI n), .ref a1, v2, v3])), (a1, .inl (cI, 3, .inl (fun j => nI (L j))))] := hD
  have hS : va_S A s.heap H locs := hS
  have hl : lv_has ls 3 [(2, .int (nI i)), (1, .int (nI t)), (0, .ref h0)] := hl
  refine lv_iload_n hx hb dX4_insInAll_4 rfl (lv_at hl 0 rfl) ?_
  refine lv_aload_n hx hb dX4_insInAll_5 rfl (lv_at hl 2 rfl) ?_
  refine va_get (D := D) (ci := 4) (v := .int (nI n)) (C := RX4) (T := TX4) (N := 4) hx hb hts (fun _ h => List.mem_cons_of_mem _ (List.mem_append_right _ h)) hown hK hP 0 rfl rfl 0 (by decide) (hts (.fieldLink RX4 21 "LitmusHall$Program" "cores" "I") (by decide +kernel)) (fun _ h9 => h9) rfl dX4_insInAll_6 ?_
  refine gy_ge (a := i) (b := n) (tgt := 27) hx hb (by omega) (by omega) dX4_insInAll_9 (by decide) (fun c_1 => ?_) (fun c_1 => ?_)
  · refine lv_iload_n hx hb dX4_insInAll_27 rfl (lv_at hl 1 rfl) ?_
    exact gx_iret (w' := [(h0, .inr (4, [.int (nI n), .ref a1, v2, v3])), (a1, .inl (cI, 3, .inl (fun j => nI (L j))))]) hx hb hr hlk hK hP hD hS (Nat.le_of_ble_eq_true rfl) (Nat.le_of_ble_eq_true rfl) dX4_insInAll_28 ⟨t, (by omega), rfl, rfl⟩
  · refine lv_iload_n hx hb dX4_insInAll_12 rfl (lv_at hl 1 rfl) ?_
    refine lv_aload_n hx hb dX4_insInAll_13 rfl (lv_at hl 2 rfl) ?_
    refine va_get (D := D) (ci := 4) (v := .ref a1) (C := RX4) (T := TX4) (N := 4) hx hb hts (fun _ h => List.mem_cons_of_mem _ (List.mem_append_right _ h)) hown hK hP 0 rfl rfl 1 (by decide) (hts (.fieldLink RX4 9 "LitmusHall$Program" "lengths" "[I") (by decide +kernel)) (fun _ h9 => h9) rfl dX4_insInAll_14 ?_
    refine lv_iload_n hx hb dX4_insInAll_17 rfl (lv_at hl 0 rfl) ?_
    refine gy_ild (i := i) hx hb hK hP 1 rfl (by omega) (by omega) dX4_insInAll_18 ?_
    refine gx_top (y := nI (L i)) rfl ?_
    have hL0 := hL i (by omega)
    refine lv_iadd hx hb dX4_insInAll_19 ?_
    refine gx_top (y := nI (t + (L i))) (nI_add t (L i)) ?_
    refine lv_istore_n (lv' := [(1, .int (nI (t + (L i)))), (2, .int (nI i)), (0, .ref h0)]) hx hb dX4_insInAll_20 rfl hl (by decide) rfl (fun ls hl => ?_)
    refine lv_iinc (v := nI (i + 1)) (lv' := [(2, .int (nI (i + 1))), (1, .int (nI (t + (L i)))), (0, .ref h0)]) hx hb dX4_insInAll_21 hl (k := 1) rfl (nI_add i 1) (by decide) rfl (fun ls hl => ?_)
    refine lv_goto (tgt := 4) hx hb dX4_insInAll_24 (by decide) ?_
    exact ih4 ((i + 1), (t + (L i))) H locs ls ⟨(by omega), (by omega), hP, hD, hS, lv_sub hl [0, 1, 2] rfl⟩ (by show n - (i + 1) < n - i; omega)
def wsP_c_placesInAll : List Cond := .code yX4_placesInAll cX4_placesInAll 3 (some .int) :: ([.fieldLink RX4 21 "LitmusHall$Program" "cores" "I", .fieldLink RX4 9 "LitmusHall$Program" "lengths" "[I", .methodLink RX4 35 Lib.Math.max.name, .static Lib.Math.max.name, .initialized "java/lang/Math", .code Lib.Math.max.name Lib.Math.max.code 2 (some .int)] ++ wsX40)
set_option maxHeartbeats 4000000 in
set_option maxRecDepth 100000 in
theorem c_placesInAll (l : Launch) (D : va_G) (cI cB cZ : ClassId) (h0 : Nat) (a1 : Nat) (v2 : Value) (v3 : Value) (L : Nat → Nat) (n : Nat) (hn : n ≤ 3) (hL : ∀ k, k < 3 → L k ≤ 8) : gMi l yX4_placesInAll wsP_c_placesInAll ({ frames := 1, cells := 0, slots := 0, locals := 30 }) D cI cB cZ [] [.ref h0] [(h0, .inr (4, [.int (nI n), .ref a1, v2, v3])), (a1, .inl (cI, 3, .inl (fun j => nI (L j))))] (fun r9 w9 => ∃ t : Nat, (t ≤ 21) ∧ r9 = (nI t) ∧ w9 = [(h0, .inr (4, [.int (nI n), .ref a1, v2, v3])), (a1, .inl (cI, 3, .inl (fun j => nI (L j))))]) := by
  refine gMi.of (cc := cX4_placesInAll) (maxL := 3) (ret := (some .int)) (by decide) rfl (Nat.le_of_ble_eq_true rfl) (fun p e s m below meth c A ls hx hb hr hlk hml hts hown hin hA hP hK hD hS hN hl => ?_)
  have hown : s.vm.findClass RX4 = some m.cls := hown
  have hl : lv_has ls 3 [(0, .ref h0)] := hl
  refine lv_iconst (v := 0) hx hb dX4_placesInAll_0 (by decide) ?_
  refine lv_istore_n (lv' := [(1, .int 0), (0, .ref h0)]) hx hb dX4_placesInAll_1 rfl hl (by decide) rfl (fun ls hl => ?_)
  refine lv_iconst (v := 0) hx hb dX4_placesInAll_2 (by decide) ?_
  refine lv_istore_n (lv' := [(2, .int 0), (1, .int 0), (0, .ref h0)]) hx hb dX4_placesInAll_3 rfl hl (by decide) rfl (fun ls hl => ?_)
  refine gy_loop0 (I := fun (x9 : Nat × Nat) H locs ls => (x9.1 ≤ n) ∧ (x9.2 ≤ 7 * x9.1) ∧ va_P D vwCl [(h0, .inr (4, [.int (nI n), .ref a1, v2, v3])), (a1, .inl (cI, 3, .inl (fun j => nI (L j))))] H ∧ va_D A [(h0, .inr (4, [.int (nI n), .ref a1, v2, v3])), (a1, .inl (cI, 3, .inl (fun j => nI (L j))))] ∧ va_S A s.heap H locs ∧ lv_has ls 3 [(2, .int (nI x9.1)), (1, .int (nI x9.2)), (0, .ref h0)]) (μ := fun (x9 : Nat × Nat) => n - x9.1) (fun x9 H locs ls hI ih4 => ?_) (0, 0) ⟨(by omega), (by omega), hP, hD, hS, lv_sub hl [0, 1, 2] rfl⟩
  obtain ⟨i, t⟩ := x9
  obtain ⟨hi4_0, hi4_1, hP, hD, hS, hl⟩ := hI
  have hi4_0 : i ≤ n := hi4_0
  have hi4_1 : t ≤ 7 * i := hi4_1
  have hP : va_P D vwCl [(h0, .inr (4, [.int (nI n), .ref a1, v2, v3])), (a1, .inl (cI, 3, .inl (fun j => nI (L j))))] H := hP
  have hD : va_D A [(h0, .inr (4, [.int (nI n), .ref a1, v2, v3])), (a1, .inl (cI, 3, .inl (fun j => nI (L j))))] := hD
  have hS : va_S A s.heap H locs := hS
  have hl : lv_has ls 3 [(2, .int (nI i)), (1, .int (nI t)), (0, .ref h0)] := hl
  refine lv_iload_n hx hb dX4_placesInAll_4 rfl (lv_at hl 0 rfl) ?_
  refine lv_aload_n hx hb dX4_placesInAll_5 rfl (lv_at hl 2 rfl) ?_
  refine va_get (D := D) (ci := 4) (v := .int (nI n)) (C := RX4) (T := TX4) (N := 4) hx hb hts (fun _ h => List.mem_cons_of_mem _ (List.mem_append_right _ h)) hown hK hP 0 rfl rfl 0 (by decide) (hts (.fieldLink RX4 21 "LitmusHall$Program" "cores" "I") (by decide +kernel)) (fun _ h9 => h9) rfl dX4_placesInAll_6 ?_
  refine gy_ge (a := i) (b := n) (tgt := 33) hx hb (by omega) (by omega) dX4_placesInAll_9 (by decide) (fun c_1 => ?_) (fun c_1 => ?_)
  · refine lv_iload_n hx hb dX4_placesInAll_33 rfl (lv_at hl 1 rfl) ?_
    exact gx_iret (w' := [(h0, .inr (4, [.int (nI n), .ref a1, v2, v3])), (a1, .inl (cI, 3, .inl (fun j => nI (L j))))]) hx hb hr hlk hK hP hD hS (Nat.le_of_ble_eq_true rfl) (Nat.le_of_ble_eq_true rfl) dX4_placesInAll_34 ⟨t, (by omega), rfl, rfl⟩
  · refine lv_iload_n hx hb dX4_placesInAll_12 rfl (lv_at hl 1 rfl) ?_
    refine lv_iconst (v := 0) hx hb dX4_placesInAll_13 (by decide) ?_
    refine lv_aload_n hx hb dX4_placesInAll_14 rfl (lv_at hl 2 rfl) ?_
    refine va_get (D := D) (ci := 4) (v := .ref a1) (C := RX4) (T := TX4) (N := 4) hx hb hts (fun _ h => List.mem_cons_of_mem _ (List.mem_append_right _ h)) hown hK hP 0 rfl rfl 1 (by decide) (hts (.fieldLink RX4 9 "LitmusHall$Program" "lengths" "[I") (by decide +kernel)) (fun _ h9 => h9) rfl dX4_placesInAll_15 ?_
    refine lv_iload_n hx hb dX4_placesInAll_18 rfl (lv_at hl 0 rfl) ?_
    refine gy_ild (i := i) hx hb hK hP 1 rfl (by omega) (by omega) dX4_placesInAll_19 ?_
    refine gx_top (y := nI (L i)) rfl ?_
    have hL0 := hL i (by omega)
    refine lv_iconst (v := 1) hx hb dX4_placesInAll_20 (by decide) ?_
    refine lv_isub hx hb dX4_placesInAll_21 ?_
    refine va_mmax hx hb (hml.trans hl.1.symm) hown (hts (.methodLink RX4 35 Lib.Math.max.name) (by decide +kernel)) (hts (.static Lib.Math.max.name) (by decide +kernel)) (hts (.initialized "java/lang/Math") (by decide +kernel)) (hts (.code Lib.Math.max.name Lib.Math.max.code 2 (some .int)) (by decide +kernel)) (Nat.le_of_ble_eq_true rfl) (Nat.le_of_ble_eq_true rfl) (Nat.le_of_ble_eq_true rfl) (Nat.le_of_ble_eq_true rfl) dX4_placesInAll_22 ?_
    refine gx_top (y := nI (L i - 1)) (gy_max0 (by omega)) ?_
    refine lv_iadd hx hb dX4_placesInAll_25 ?_
    refine gx_top (y := nI (t + (L i - 1))) (nI_add t (L i - 1)) ?_
    refine lv_istore_n (lv' := [(1, .int (nI (t + (L i - 1)))), (2, .int (nI i)), (0, .ref h0)]) hx hb dX4_placesInAll_26 rfl hl (by decide) rfl (fun ls hl => ?_)
    refine lv_iinc (v := nI (i + 1)) (lv' := [(2, .int (nI (i + 1))), (1, .int (nI (t + (L i - 1)))), (0, .ref h0)]) hx hb dX4_placesInAll_27 hl (k := 1) rfl (nI_add i 1) (by decide) rfl (fun ls hl => ?_)
    refine lv_goto (tgt := 4) hx hb dX4_placesInAll_30 (by decide) ?_
    exact ih4 ((i + 1), (t + (L i - 1))) H locs ls ⟨(by omega), (by omega), hP, hD, hS, lv_sub hl [0, 1, 2] rfl⟩ (by show n - (i + 1) < n - i; omega)
