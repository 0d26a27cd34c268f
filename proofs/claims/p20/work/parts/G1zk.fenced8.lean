
def wsP_x_within : List Cond := .code yX4_within cX4_within 3 (some .int) :: (([]) ++ [])
theorem gW_x_within : wsP_x_within.all goodWord = true := by unfold wsP_x_within; exact gw_mk (by decide +kernel) rfl
set_option maxHeartbeats 4000000 in
set_option maxRecDepth 100000 in
theorem x_within (l : Launch) (D : va_G) (cI cB cZ : ClassId) (u : Int32) (x : Int32) (y : Int32)  : gMi l yX4_within wsP_x_within ({ frames := 0, cells := 0, slots := 0, locals := 0 }) D cI cB cZ [] [.int u, .int x, .int y] [] (fun r9 w9 => ∃ z : Nat, (z ≤ 1) ∧ (gWi u x y z) ∧ r9 = (nI z) ∧ w9 = []) := by
  refine gMi.of (cc := cX4_within) (maxL := 3) (ret := (some .int)) (by decide) rfl (Nat.le_of_ble_eq_true rfl) (fun p e s m below meth c A ls hx hb hr hlk hml hts hown hin hA hP hK hD hS hN hl => ?_)
  have hown : s.vm.findClass RX4 = some m.cls := hown
  have hl : lv_has ls 3 [(0, .int u), (1, .int x), (2, .int y)] := hl
  refine lv_iload_n hx hb dX4_within_0 rfl (lv_at hl 2 rfl) ?_
  refine lv_iload_n hx hb dX4_within_1 rfl (lv_at hl 0 rfl) ?_
  refine lv_icmp_le (tgt := 16) hx hb dX4_within_2 (by decide) (fun c_1 => ?_) (fun c_1 => ?_)
  · refine lv_iconst (v := 0) hx hb dX4_within_16 (by decide) ?_
    exact gx_iret (w' := []) hx hb hr hlk hK hP hD hS (Nat.le_of_ble_eq_true rfl) (Nat.le_of_ble_eq_true rfl) dX4_within_17 ⟨0, (by omega), (by first | exact gWi_a c_1 | exact gWi_b c_1 c_1 | exact gWi_c c_1 c_1), rfl, rfl⟩
  · refine lv_iload_n hx hb dX4_within_5 rfl (lv_at hl 2 rfl) ?_
    refine lv_iload_n hx hb dX4_within_6 rfl (lv_at hl 0 rfl) ?_
    refine lv_iload_n hx hb dX4_within_7 rfl (lv_at hl 1 rfl) ?_
    refine lv_iadd hx hb dX4_within_8 ?_
    refine lv_icmp_gt (tgt := 16) hx hb dX4_within_9 (by decide) (fun c_2 => ?_) (fun c_2 => ?_)
    · refine lv_iconst (v := 0) hx hb dX4_within_16 (by decide) ?_
      exact gx_iret (w' := []) hx hb hr hlk hK hP hD hS (Nat.le_of_ble_eq_true rfl) (Nat.le_of_ble_eq_true rfl) dX4_within_17 ⟨0, (by omega), (by first | exact gWi_a c_2 | exact gWi_b c_1 c_2 | exact gWi_c c_1 c_2), rfl, rfl⟩
    · refine lv_iconst (v := 1) hx hb dX4_within_12 (by decide) ?_
      refine lv_goto (tgt := 17) hx hb dX4_within_13 (by decide) ?_
      exact gx_iret (w' := []) hx hb hr hlk hK hP hD hS (Nat.le_of_ble_eq_true rfl) (Nat.le_of_ble_eq_true rfl) dX4_within_17 ⟨1, (by omega), (by first | exact gWi_a c_2 | exact gWi_b c_1 c_2 | exact gWi_c c_1 c_2), rfl, rfl⟩
def wsP_x_becomeFenced : List Cond := .code yX4_becomeFenced cX4_becomeFenced 9 none :: (([.methodLink RX4 40 yX4_clear, .instanceMethod yX4_clear, .selects RX4 yX4_clear yX4_clear, .initialized RX4, .fieldLink RX4 21 "LitmusHall$Program" "cores" "I", .fieldLink RX4 15 "LitmusHall$Program" "cells" "[I", .methodLink RX4 43 arraycopyName, .native arraycopyName, .static arraycopyName, .initialized "java/lang/System", .fieldLink RX4 9 "LitmusHall$Program" "lengths" "[I", .methodLink RX4 49 yX4_hasRoom, .instanceMethod yX4_hasRoom, .selects RX4 yX4_hasRoom yX4_hasRoom, .methodLink RX4 56 yX4_part, .instanceMethod yX4_part, .selects RX4 yX4_part yX4_part, .methodLink RX4 60 yX4_within, .static yX4_within, .initialized yX4_within.cls, .methodLink RX4 63 yX4_copyIns, .instanceMethod yX4_copyIns, .selects RX4 yX4_copyIns yX4_copyIns, .methodLink RX4 53 yX4_addBlank, .instanceMethod yX4_addBlank, .selects RX4 yX4_addBlank yX4_addBlank] ++ wsX40) ++ (wsP_c_clear ++ (wsP_c_hasRoom ++ (wsP_c_part ++ (wsP_x_within ++ (wsP_c_copyIns ++ (wsP_c_addBlank ++ [])))))))
theorem gW_x_becomeFenced : wsP_x_becomeFenced.all goodWord = true := by unfold wsP_x_becomeFenced; exact gw_mk (by decide +kernel) (gw_app gW_c_clear (gw_app gW_c_hasRoom (gw_app gW_c_part (gw_app gW_x_within (gw_app gW_c_copyIns (gw_app gW_c_addBlank rfl))))))
set_option maxRecDepth 20000 in
theorem gP_x_becomeFenced__c_clear : GoodIn wsP_x_becomeFenced (wsV RX4 40 RX4 yX4_clear wsP_c_clear) := gw_in (pre := [.methodLink RX4 40 yX4_clear, .instanceMethod yX4_clear, .selects RX4 yX4_clear yX4_clear, .initialized RX4]) (by decide +kernel) (fun _ h => List.mem_cons_of_mem _ (List.mem_append_right _ (List.mem_append_left _ h))) gW_c_clear
set_option maxRecDepth 20000 in
theorem gP_x_becomeFenced__c_hasRoom : GoodIn wsP_x_becomeFenced (wsV RX4 49 RX4 yX4_hasRoom wsP_c_hasRoom) := gw_in (pre := [.methodLink RX4 49 yX4_hasRoom, .instanceMethod yX4_hasRoom, .selects RX4 yX4_hasRoom yX4_hasRoom, .initialized RX4]) (by decide +kernel) (fun _ h => List.mem_cons_of_mem _ (List.mem_append_right _ (List.mem_append_right _ (List.mem_append_left _ h)))) gW_c_hasRoom
set_option maxRecDepth 20000 in
theorem gP_x_becomeFenced__c_part : GoodIn wsP_x_becomeFenced (wsV RX4 56 RX4 yX4_part wsP_c_part) := gw_in (pre := [.methodLink RX4 56 yX4_part, .instanceMethod yX4_part, .selects RX4 yX4_part yX4_part, .initialized RX4]) (by decide +kernel) (fun _ h => List.mem_cons_of_mem _ (List.mem_append_right _ (List.mem_append_right _ (List.mem_append_right _ (List.mem_append_left _ h))))) gW_c_part
set_option maxRecDepth 20000 in
theorem gP_x_becomeFenced__x_within : GoodIn wsP_x_becomeFenced (va_wsS RX4 60 yX4_within wsP_x_within) := gw_in (pre := [.methodLink RX4 60 yX4_within, .static yX4_within, .initialized yX4_within.cls]) (by decide +kernel) (fun _ h => List.mem_cons_of_mem _ (List.mem_append_right _ (List.mem_append_right _ (List.mem_append_right _ (List.mem_append_right _ (List.mem_append_left _ h)))))) gW_x_within
set_option maxRecDepth 20000 in
theorem gP_x_becomeFenced__c_copyIns : GoodIn wsP_x_becomeFenced (wsV RX4 63 RX4 yX4_copyIns wsP_c_copyIns) := gw_in (pre := [.methodLink RX4 63 yX4_copyIns, .instanceMethod yX4_copyIns, .selects RX4 yX4_copyIns yX4_copyIns, .initialized RX4]) (by decide +kernel) (fun _ h => List.mem_cons_of_mem _ (List.mem_append_right _ (List.mem_append_right _ (List.mem_append_right _ (List.mem_append_right _ (List.mem_append_right _ (List.mem_append_left _ h))))))) gW_c_copyIns
set_option maxRecDepth 20000 in
theorem gP_x_becomeFenced__c_addBlank : GoodIn wsP_x_becomeFenced (wsV RX4 53 RX4 yX4_addBlank wsP_c_addBlank) := gw_in (pre := [.methodLink RX4 53 yX4_addBlank, .instanceMethod yX4_addBlank, .selects RX4 yX4_addBlank yX4_addBlank, .initialized RX4]) (by decide +kernel) (fun _ h => List.mem_cons_of_mem _ (List.mem_append_right _ (List.mem_append_right _ (List.mem_append_right _ (List.mem_append_right _ (List.mem_append_right _ (List.mem_append_right _ (List.mem_append_left _ h)))))))) gW_c_addBlank
set_option maxHeartbeats 4000000 in
set_option maxRecDepth 100000 in
theorem x_becomeFenced (l : Launch) (D : va_G) (cI cB cZ : ClassId) (h0 : Nat) (a1 : Nat) (a2 : Nat) (a3 : Nat) (p0 : Nat) (b1 : Nat) (b2 : Nat) (b3 : Nat) (c0 : Int32) (L0 : Nat → Nat) (cf0 : Nat → Int32) (pf0 : Nat → Int32) (nc : Nat) (L : Nat → Nat) (cf : Nat → Int32) (pg : Nat → Int32) (x : Int32) (y : Int32) (fa : Nat) (fb : Nat) (hc : nc ≤ 3) (hL6 : ∀ k, k < 3 → L k ≤ 6) (hI : gG L pg 5) (hxa : gPc x fa) (hyb : gPc y fb) (hne : fa ≠ fb ∨ fa = 99) : gMv l yX4_becomeFenced wsP_x_becomeFenced ({ frames := 3, cells := 0, slots := 0, locals := 70 }) D cI cB cZ [] [.ref h0, .ref p0, .int x, .int y] [(h0, .inr (4, [.int c0, .ref a1, .ref a2, .ref a3])), (a1, .inl (cI, 3, .inl (fun j => nI (L0 j)))), (a2, .inl (cI, 4, .inl cf0)), (a3, .inl (cI, 192, .inl pf0)), (p0, .inr (4, [.int (nI nc), .ref b1, .ref b2, .ref b3])), (b1, .inl (cI, 3, .inl (fun j => nI (L j)))), (b2, .inl (cI, 4, .inl cf)), (b3, .inl (cI, 192, .inl pg))] (fun w9 => ∃ L9 : Nat → Nat, ∃ cf9 : Nat → Int32, ∃ pf9 : Nat → Int32, (gL8 L9) ∧ (gG L9 pf9 7) ∧ (gFnc pg L nc fa fb L9 pf9) ∧ (∀ c, c < 4 → cf9 c = cf c) ∧ w9 = [(h0, .inr (4, [.int (nI nc), .ref a1, .ref a2, .ref a3])), (a1, .inl (cI, 3, .inl (fun j => nI (L9 j)))), (a2, .inl (cI, 4, .inl cf9)), (a3, .inl (cI, 192, .inl pf9)), (p0, .inr (4, [.int (nI nc), .ref b1, .ref b2, .ref b3])), (b1, .inl (cI, 3, .inl (fun j => nI (L j)))), (b2, .inl (cI, 4, .inl cf)), (b3, .inl (cI, 192, .inl pg))]) := by
  refine gMv.of (cc := cX4_becomeFenced) (maxL := 9) (ret := none) (by decide) rfl (Nat.le_of_ble_eq_true rfl) (fun p e s m below meth c A ls hx hb hr hlk hml hts hown hin hA hP hK hD hS hN hl => ?_)
  have hown : s.vm.findClass RX4 = some m.cls := hown
  have hl : lv_has ls 9 [(0, .ref h0), (1, .ref p0), (2, .int x), (3, .int y)] := hl
  refine lv_aload_n hx hb dX4_becomeFenced_0 rfl (lv_at hl 0 rfl) ?_
  refine gx_gov (wc := [(h0, .inr (4, [.int c0, .ref a1, .ref a2, .ref a3])), (a1, .inl (cI, 3, .inl (fun j => nI (L0 j)))), (a2, .inl (cI, 4, .inl cf0))]) (wr := [(a3, .inl (cI, 192, .inl pf0)), (p0, .inr (4, [.int (nI nc), .ref b1, .ref b2, .ref b3])), (b1, .inl (cI, 3, .inl (fun j => nI (L j)))), (b2, .inl (cI, 4, .inl cf)), (b3, .inl (cI, 192, .inl pg))]) (va_runV (As := []) (rest := []) ⟨hx, hb, hml, hown, hts⟩ (c_clear l D cI cB cZ h0 a1 a2 (.ref a3) c0 L0 cf0 _) (cwV 0 hts gP_x_becomeFenced__c_clear rfl rfl rfl (by decide +kernel) ⟨Nat.le_of_ble_eq_true rfl, Nat.le_of_ble_eq_true rfl⟩) (gx_preV (ci := 4) (q0 := 0) hK gN.nil hP hD [0, 1, 2] rfl rfl rfl rfl) rfl rfl hl.1 rfl (lv_room (Nat.le_of_ble_eq_true rfl)) dX4_becomeFenced_1 ⟨Nat.le_of_ble_eq_true rfl, Nat.le_of_ble_eq_true rfl⟩) hP hD hS hA [0, 1, 2] [3, 4, 5, 6, 7] rfl rfl rfl (by decide) (fun w1 H locs hp hP hD hS => ?_)
  obtain ⟨rfl⟩ := hp
  refine lv_aload_n hx hb dX4_becomeFenced_4 rfl (lv_at hl 0 rfl) ?_
  refine lv_aload_n hx hb dX4_becomeFenced_5 rfl (lv_at hl 1 rfl) ?_
  refine va_get (D := D) (ci := 4) (v := .int (nI nc)) (C := RX4) (T := TX4) (N := 4) hx hb hts (fun _ h => List.mem_cons_of_mem _ (List.mem_append_left _ (List.mem_append_right _ h))) hown hK hP 1 rfl rfl 0 (by decide) (hts (.fieldLink RX4 21 "LitmusHall$Program" "cores" "I") (by decide +kernel)) (fun _ h9 => h9) rfl dX4_becomeFenced_6 ?_
  refine va_put (D := D) (ci := 4) (v := .int (nI nc)) (ty := .int) (C := RX4) (T := TX4) (N := 4) hx hb hts (fun _ h => List.mem_cons_of_mem _ (List.mem_append_left _ (List.mem_append_right _ h))) tyX4 tyX4_ok nmX4 hown hK hP hD hS 5 rfl rfl 0 (by decide) (hts (.fieldLink RX4 21 "LitmusHall$Program" "cores" "I") (by decide +kernel)) (fun _ h9 => h9) rfl (by decide +kernel) rfl rfl (Nat.le_of_ble_eq_true rfl) dX4_becomeFenced_9 (fun H locs hP hD hS => ?_)
  have hP : va_P D vwCl [(a3, .inl (cI, 192, .inl pf0)), (p0, .inr (4, [.int (nI nc), .ref b1, .ref b2, .ref b3])), (b1, .inl (cI, 3, .inl (fun j => nI (L j)))), (b2, .inl (cI, 4, .inl cf)), (b3, .inl (cI, 192, .inl pg)), (h0, .inr (4, [.int (nI nc), .ref a1, .ref a2, .ref a3])), (a1, .inl (cI, 3, .inl (fun j => nI ((fun _ => 0) j)))), (a2, .inl (cI, 4, .inl (fun _ => 0)))] H := hP
  have hD : va_D A [(a3, .inl (cI, 192, .inl pf0)), (p0, .inr (4, [.int (nI nc), .ref b1, .ref b2, .ref b3])), (b1, .inl (cI, 3, .inl (fun j => nI (L j)))), (b2, .inl (cI, 4, .inl cf)), (b3, .inl (cI, 192, .inl pg)), (h0, .inr (4, [.int (nI nc), .ref a1, .ref a2, .ref a3])), (a1, .inl (cI, 3, .inl (fun j => nI ((fun _ => 0) j)))), (a2, .inl (cI, 4, .inl (fun _ => 0)))] := hD
  refine lv_aload_n hx hb dX4_becomeFenced_12 rfl (lv_at hl 1 rfl) ?_
  refine va_get (D := D) (ci := 4) (v := .ref b2) (C := RX4) (T := TX4) (N := 4) hx hb hts (fun _ h => List.mem_cons_of_mem _ (List.mem_append_left _ (List.mem_append_right _ h))) hown hK hP 1 rfl rfl 2 (by decide) (hts (.fieldLink RX4 15 "LitmusHall$Program" "cells" "[I") (by decide +kernel)) (fun _ h9 => h9) rfl dX4_becomeFenced_13 ?_
  refine lv_iconst (v := 0) hx hb dX4_becomeFenced_16 (by decide) ?_
  refine lv_aload_n hx hb dX4_becomeFenced_17 rfl (lv_at hl 0 rfl) ?_
  refine va_get (D := D) (ci := 4) (v := .ref a2) (C := RX4) (T := TX4) (N := 4) hx hb hts (fun _ h => List.mem_cons_of_mem _ (List.mem_append_left _ (List.mem_append_right _ h))) hown hK hP 5 rfl rfl 2 (by decide) (hts (.fieldLink RX4 15 "LitmusHall$Program" "cells" "[I") (by decide +kernel)) (fun _ h9 => h9) rfl dX4_becomeFenced_18 ?_
  refine lv_iconst (v := 0) hx hb dX4_becomeFenced_21 (by decide) ?_
  refine lv_iconst (v := 4) hx hb dX4_becomeFenced_22 (by decide) ?_
  refine gy_copyi (sp := 0) (dp := 0) (n := 4) hx hb (hml.trans hl.1.symm) hown (hts (.methodLink RX4 43 arraycopyName) (by decide +kernel)) (hts (.native arraycopyName) (by decide +kernel)) (hts (.static arraycopyName) (by decide +kernel)) (hts (.initialized "java/lang/System") (by decide +kernel)) hK hP hD hS 3 7 rfl rfl (by omega) (by omega) (by omega) (by omega) (by omega) (Nat.le_of_ble_eq_true rfl) (Nat.le_of_ble_eq_true rfl) dX4_becomeFenced_23 (fun H locs hP hD hS => ?_)
  have hP : va_P D vwCl [(a3, .inl (cI, 192, .inl pf0)), (p0, .inr (4, [.int (nI nc), .ref b1, .ref b2, .ref b3])), (b1, .inl (cI, 3, .inl (fun j => nI (L j)))), (b2, .inl (cI, 4, .inl cf)), (b3, .inl (cI, 192, .inl pg)), (h0, .inr (4, [.int (nI nc), .ref a1, .ref a2, .ref a3])), (a1, .inl (cI, 3, .inl (fun j => nI ((fun _ => 0) j)))), (a2, .inl (cI, 4, .inl (va_cpy cf (fun _ => 0) 0 0 4)))] H := hP
  have hD : va_D A [(a3, .inl (cI, 192, .inl pf0)), (p0, .inr (4, [.int (nI nc), .ref b1, .ref b2, .ref b3])), (b1, .inl (cI, 3, .inl (fun j => nI (L j)))), (b2, .inl (cI, 4, .inl cf)), (b3, .inl (cI, 192, .inl pg)), (h0, .inr (4, [.int (nI nc), .ref a1, .ref a2, .ref a3])), (a1, .inl (cI, 3, .inl (fun j => nI ((fun _ => 0) j)))), (a2, .inl (cI, 4, .inl (va_cpy cf (fun _ => 0) 0 0 4)))] := hD
  refine lv_iconst (v := 0) hx hb dX4_becomeFenced_26 (by decide) ?_
  refine lv_istore (lv' := [(4, .int 0), (0, .ref h0), (1, .ref p0), (2, .int x), (3, .int y)]) hx hb dX4_becomeFenced_27 hl (by decide) rfl (fun ls hl => ?_)
  refine gy_loop0 (I := fun (x9 : Nat × (Nat → Nat) × (Nat → Int32)) H locs ls => (x9.1 ≤ nc) ∧ (gL8 x9.2.1) ∧ (gG x9.2.1 x9.2.2 7) ∧ (gFs1 pg L fa fb x9.1 x9.2.1 x9.2.2) ∧ va_P D vwCl [(a3, .inl (cI, 192, .inl x9.2.2)), (p0, .inr (4, [.int (nI nc), .ref b1, .ref b2, .ref b3])), (b1, .inl (cI, 3, .inl (fun j => nI (L j)))), (b2, .inl (cI, 4, .inl cf)), (b3, .inl (cI, 192, .inl pg)), (h0, .inr (4, [.int (nI nc), .ref a1, .ref a2, .ref a3])), (a1, .inl (cI, 3, .inl (fun j => nI (x9.2.1 j)))), (a2, .inl (cI, 4, .inl (va_cpy cf (fun _ => 0) 0 0 4)))] H ∧ va_D A [(a3, .inl (cI, 192, .inl x9.2.2)), (p0, .inr (4, [.int (nI nc), .ref b1, .ref b2, .ref b3])), (b1, .inl (cI, 3, .inl (fun j => nI (L j)))), (b2, .inl (cI, 4, .inl cf)), (b3, .inl (cI, 192, .inl pg)), (h0, .inr (4, [.int (nI nc), .ref a1, .ref a2, .ref a3])), (a1, .inl (cI, 3, .inl (fun j => nI (x9.2.1 j)))), (a2, .inl (cI, 4, .inl (va_cpy cf (fun _ => 0) 0 0 4)))] ∧ va_S A s.heap H locs ∧ lv_has ls 9 [(4, .int (nI x9.1)), (0, .ref h0), (1, .ref p0), (2, .int x), (3, .int y)]) (μ := fun (x9 : Nat × (Nat → Nat) × (Nat → Int32)) => nc - x9.1) (fun x9 H locs ls hI ih29 => ?_) (0, (fun _ => 0), pf0) ⟨(by show 0 ≤ nc; exact Nat.zero_le _), gL8_0, gG_0, gFs1_0, hP, hD, hS, lv_sub hl [0, 1, 2, 3, 4] rfl⟩
  obtain ⟨k, L1, pf1⟩ := x9
  obtain ⟨hi29_0, hi29_1, hi29_2, hi29_3, hP, hD, hS, hl⟩ := hI
  have hi29_0 : k ≤ nc := hi29_0
  have hi29_1 : gL8 L1 := hi29_1
  have hi29_2 : gG L1 pf1 7 := hi29_2
  have hi29_3 : gFs1 pg L fa fb k L1 pf1 := hi29_3
  have hP : va_P D vwCl [(a3, .inl (cI, 192, .inl pf1)), (p0, .inr (4, [.int (nI nc), .ref b1, .ref b2, .ref b3])), (b1, .inl (cI, 3, .inl (fun j => nI (L j)))), (b2, .inl (cI, 4, .inl cf)), (b3, .inl (cI, 192, .inl pg)), (h0, .inr (4, [.int (nI nc), .ref a1, .ref a2, .ref a3])), (a1, .inl (cI, 3, .inl (fun j => nI (L1 j)))), (a2, .inl (cI, 4, .inl (va_cpy cf (fun _ => 0) 0 0 4)))] H := hP
  have hD : va_D A [(a3, .inl (cI, 192, .inl pf1)), (p0, .inr (4, [.int (nI nc), .ref b1, .ref b2, .ref b3])), (b1, .inl (cI, 3, .inl (fun j => nI (L j)))), (b2, .inl (cI, 4, .inl cf)), (b3, .inl (cI, 192, .inl pg)), (h0, .inr (4, [.int (nI nc), .ref a1, .ref a2, .ref a3])), (a1, .inl (cI, 3, .inl (fun j => nI (L1 j)))), (a2, .inl (cI, 4, .inl (va_cpy cf (fun _ => 0) 0 0 4)))] := hD
  have hS : va_S A s.heap H locs := hS
  have hl : lv_has ls 9 [(4, .int (nI k)), (0, .ref h0), (1, .ref p0), (2, .int x), (3, .int y)] := hl
  refine lv_iload hx hb dX4_becomeFenced_29 (lv_at hl 0 rfl) ?_
  refine lv_aload_n hx hb dX4_becomeFenced_31 rfl (lv_at hl 1 rfl) ?_
  refine va_get (D := D) (ci := 4) (v := .int (nI nc)) (C := RX4) (T := TX4) (N := 4) hx hb hts (fun _ h => List.mem_cons_of_mem _ (List.mem_append_left _ (List.mem_append_right _ h))) hown hK hP 5 rfl rfl 0 (by decide) (hts (.fieldLink RX4 21 "LitmusHall$Program" "cores" "I") (by decide +kernel)) (fun _ h9 => h9) rfl dX4_becomeFenced_32 ?_
  refine gy_ge (a := k) (b := nc) (tgt := 158) hx hb (by omega) (by omega) dX4_becomeFenced_35 (by decide) (fun c_1 => ?_) (fun c_1 => ?_)
  · have hP := hP.sub (ws' := [(h0, .inr (4, [.int (nI nc), .ref a1, .ref a2, .ref a3])), (a1, .inl (cI, 3, .inl (fun j => nI (L1 j)))), (a2, .inl (cI, 4, .inl (va_cpy cf (fun _ => 0) 0 0 4))), (a3, .inl (cI, 192, .inl pf1)), (p0, .inr (4, [.int (nI nc), .ref b1, .ref b2, .ref b3])), (b1, .inl (cI, 3, .inl (fun j => nI (L j)))), (b2, .inl (cI, 4, .inl cf)), (b3, .inl (cI, 192, .inl pg))]) [5, 6, 7, 0, 1, 2, 3, 4] rfl
    have hD := hD.sub (ws' := [(h0, .inr (4, [.int (nI nc), .ref a1, .ref a2, .ref a3])), (a1, .inl (cI, 3, .inl (fun j => nI (L1 j)))), (a2, .inl (cI, 4, .inl (va_cpy cf (fun _ => 0) 0 0 4))), (a3, .inl (cI, 192, .inl pf1)), (p0, .inr (4, [.int (nI nc), .ref b1, .ref b2, .ref b3])), (b1, .inl (cI, 3, .inl (fun j => nI (L j)))), (b2, .inl (cI, 4, .inl cf)), (b3, .inl (cI, 192, .inl pg))]) [5, 6, 7, 0, 1, 2, 3, 4] (by decide) rfl
    exact gx_vret (w' := [(h0, .inr (4, [.int (nI nc), .ref a1, .ref a2, .ref a3])), (a1, .inl (cI, 3, .inl (fun j => nI (L1 j)))), (a2, .inl (cI, 4, .inl (va_cpy cf (fun _ => 0) 0 0 4))), (a3, .inl (cI, 192, .inl pf1)), (p0, .inr (4, [.int (nI nc), .ref b1, .ref b2, .ref b3])), (b1, .inl (cI, 3, .inl (fun j => nI (L j)))), (b2, .inl (cI, 4, .inl cf)), (b3, .inl (cI, 192, .inl pg))]) hx hb hr hlk hK hP hD hS (Nat.le_of_ble_eq_true rfl) (Nat.le_of_ble_eq_true rfl) dX4_becomeFenced_158 ⟨L1, (va_cpy cf (fun _ => 0) 0 0 4), pf1, hi29_1, hi29_2, (gFnc_e hi29_3 (by omega)), (fun c9 h9 => by rw [pk_cpy_in (by omega) (by omega), show 0 + (c9 - 0) = c9 by omega]), rfl⟩
  · refine lv_iconst (v := 0) hx hb dX4_becomeFenced_38 (by decide) ?_
    refine lv_istore (lv' := [(5, .int 0), (4, .int (nI k)), (0, .ref h0), (1, .ref p0), (2, .int x), (3, .int y)]) hx hb dX4_becomeFenced_39 hl (by decide) rfl (fun ls hl => ?_)
    refine gy_loop0 (I := fun (x9 : Nat × (Nat → Nat) × (Nat → Int32)) H locs ls => (x9.1 ≤ L k) ∧ (gL8 x9.2.1) ∧ (gG x9.2.1 x9.2.2 7) ∧ (gFs2 pg L fa fb k x9.1 x9.2.1 x9.2.2) ∧ va_P D vwCl [(a3, .inl (cI, 192, .inl x9.2.2)), (p0, .inr (4, [.int (nI nc), .ref b1, .ref b2, .ref b3])), (b1, .inl (cI, 3, .inl (fun j => nI (L j)))), (b2, .inl (cI, 4, .inl cf)), (b3, .inl (cI, 192, .inl pg)), (h0, .inr (4, [.int (nI nc), .ref a1, .ref a2, .ref a3])), (a1, .inl (cI, 3, .inl (fun j => nI (x9.2.1 j)))), (a2, .inl (cI, 4, .inl (va_cpy cf (fun _ => 0) 0 0 4)))] H ∧ va_D A [(a3, .inl (cI, 192, .inl x9.2.2)), (p0, .inr (4, [.int (nI nc), .ref b1, .ref b2, .ref b3])), (b1, .inl (cI, 3, .inl (fun j => nI (L j)))), (b2, .inl (cI, 4, .inl cf)), (b3, .inl (cI, 192, .inl pg)), (h0, .inr (4, [.int (nI nc), .ref a1, .ref a2, .ref a3])), (a1, .inl (cI, 3, .inl (fun j => nI (x9.2.1 j)))), (a2, .inl (cI, 4, .inl (va_cpy cf (fun _ => 0) 0 0 4)))] ∧ va_S A s.heap H locs ∧ lv_has ls 9 [(5, .int (nI x9.1)), (4, .int (nI k)), (0, .ref h0), (1, .ref p0), (2, .int x), (3, .int y)]) (μ := fun (x9 : Nat × (Nat → Nat) × (Nat → Int32)) => L k - x9.1) (fun x9 H locs ls hI ih41 => ?_) (0, L1, pf1) ⟨(by show 0 ≤ L k; exact Nat.zero_le _), hi29_1, hi29_2, (gFs2_0 hi29_3 (by omega)), hP, hD, hS, lv_sub hl [0, 1, 2, 3, 4, 5] rfl⟩
    obtain ⟨i, L2, pf2⟩ := x9
    obtain ⟨hi41_0, hi41_1, hi41_2, hi41_3, hP, hD, hS, hl⟩ := hI
    have hi41_0 : i ≤ L k := hi41_0
    have hi41_1 : gL8 L2 := hi41_1
    have hi41_2 : gG L2 pf2 7 := hi41_2
    have hi41_3 : gFs2 pg L fa fb k i L2 pf2 := hi41_3
    have hP : va_P D vwCl [(a3, .inl (cI, 192, .inl pf2)), (p0, .inr (4, [.int (nI nc), .ref b1, .ref b2, .ref b3])), (b1, .inl (cI, 3, .inl (fun j => nI (L j)))), (b2, .inl (cI, 4, .inl cf)), (b3, .inl (cI, 192, .inl pg)), (h0, .inr (4, [.int (nI nc), .ref a1, .ref a2, .ref a3])), (a1, .inl (cI, 3, .inl (fun j => nI (L2 j)))), (a2, .inl (cI, 4, .inl (va_cpy cf (fun _ => 0) 0 0 4)))] H := hP
    have hD : va_D A [(a3, .inl (cI, 192, .inl pf2)), (p0, .inr (4, [.int (nI nc), .ref b1, .ref b2, .ref b3])), (b1, .inl (cI, 3, .inl (fun j => nI (L j)))), (b2, .inl (cI, 4, .inl cf)), (b3, .inl (cI, 192, .inl pg)), (h0, .inr (4, [.int (nI nc), .ref a1, .ref a2, .ref a3])), (a1, .inl (cI, 3, .inl (fun j => nI (L2 j)))), (a2, .inl (cI, 4, .inl (va_cpy cf (fun _ => 0) 0 0 4)))] := hD
    have hS : va_S A s.heap H locs := hS
    have hl : lv_has ls 9 [(5, .int (nI i)), (4, .int (nI k)), (0, .ref h0), (1, .ref p0), (2, .int x), (3, .int y)] := hl
    refine lv_iload hx hb dX4_becomeFenced_41 (lv_at hl 0 rfl) ?_
    refine lv_aload_n hx hb dX4_becomeFenced_43 rfl (lv_at hl 3 rfl) ?_
    refine va_get (D := D) (ci := 4) (v := .ref b1) (C := RX4) (T := TX4) (N := 4) hx hb hts (fun _ h => List.mem_cons_of_mem _ (List.mem_append_left _ (List.mem_append_right _ h))) hown hK hP 1 rfl rfl 1 (by decide) (hts (.fieldLink RX4 9 "LitmusHall$Program" "lengths" "[I") (by decide +kernel)) (fun _ h9 => h9) rfl dX4_becomeFenced_44 ?_
    refine lv_iload hx hb dX4_becomeFenced_47 (lv_at hl 1 rfl) ?_
    refine gy_ild (i := k) hx hb hK hP 2 rfl (by omega) (by omega) dX4_becomeFenced_49 ?_
    refine gx_top (y := nI (L k)) rfl ?_
    have hL0 := hL6 k (by omega)
    refine gy_ge (a := i) (b := (L k)) (tgt := 152) hx hb (by omega) (by omega) dX4_becomeFenced_50 (by decide) (fun c_2 => ?_) (fun c_2 => ?_)
    · refine lv_iinc (v := nI (k + 1)) (lv' := [(4, .int (nI (k + 1))), (5, .int (nI i)), (0, .ref h0), (1, .ref p0), (2, .int x), (3, .int y)]) hx hb dX4_becomeFenced_152 hl (k := 1) rfl (nI_add k 1) (by decide) rfl (fun ls hl => ?_)
      refine lv_goto (tgt := 29) hx hb dX4_becomeFenced_155 (by decide) ?_
      exact ih29 ((k + 1), L2, pf2) H locs ls ⟨(by show (k + 1) ≤ nc; omega), hi41_1, hi41_2, (gFs1_s hi41_3 (by omega)), hP, hD, hS, lv_sub hl [0, 2, 3, 4, 5] rfl⟩ (by show nc - (k + 1) < nc - k; omega)
    · have hg8 : gL8 L2 := hi41_1
      have hgG : gG L2 pf2 7 := hi41_2
      have hm2 : L2 k ≤ i + 2 := by rw [hi41_3.2.1.1]; exact gMf_le
      refine lv_iload hx hb dX4_becomeFenced_53 (lv_at hl 1 rfl) ?_
      refine lv_bipush (v := 10) hx hb dX4_becomeFenced_55 (by decide) ?_
      refine lv_imul hx hb dX4_becomeFenced_57 ?_
      refine gx_top (y := nI (k * 10)) (pk_mul k 10) ?_
      refine lv_iload hx hb dX4_becomeFenced_58 (lv_at hl 0 rfl) ?_
      refine lv_iadd hx hb dX4_becomeFenced_60 ?_
      refine gx_top (y := nI ((k * 10) + i)) (nI_add (k * 10) i) ?_
      refine lv_istore (lv' := [(6, .int (nI ((k * 10) + i))), (5, .int (nI i)), (4, .int (nI k)), (0, .ref h0), (1, .ref p0), (2, .int x), (3, .int y)]) hx hb dX4_becomeFenced_61 hl (by decide) rfl (fun ls hl => ?_)
      refine lv_iload hx hb dX4_becomeFenced_63 (lv_at hl 0 rfl) ?_
      refine lv_iload_n hx hb dX4_becomeFenced_65 rfl (lv_at hl 5 rfl) ?_
      refine lv_icmp_eq (tgt := 75) hx hb dX4_becomeFenced_66 (by decide) (fun c_3 => ?_) (fun c_3 => ?_)
      · have hput := gPt_y (k := k) (i := i) (by omega) (by omega) hxa hyb (by first | exact Or.inl c_3 | exact Or.inr c_3)
        have ho2 := gOf_le (a := fa) (b := fb) (k := k) (i := i) hne (by omega)
        have ho3 : gOf fa fb k i = L2 k + 1 := by rw [hi41_3.2.1.1]; unfold gOf; rw [if_pos hput]
        refine lv_aload_n hx hb dX4_becomeFenced_75 rfl (lv_at hl 3 rfl) ?_
        refine lv_iload hx hb dX4_becomeFenced_76 (lv_at hl 2 rfl) ?_
        refine gx_goi (wc := [(h0, .inr (4, [.int (nI nc), .ref a1, .ref a2, .ref a3])), (a1, .inl (cI, 3, .inl (fun j => nI (L2 j))))]) (wr := [(a3, .inl (cI, 192, .inl pf2)), (p0, .inr (4, [.int (nI nc), .ref b1, .ref b2, .ref b3])), (b1, .inl (cI, 3, .inl (fun j => nI (L j)))), (b2, .inl (cI, 4, .inl cf)), (b3, .inl (cI, 192, .inl pg)), (a2, .inl (cI, 4, .inl (va_cpy cf (fun _ => 0) 0 0 4)))]) (va_runV (As := [.int (nI k)]) (rest := []) ⟨hx, hb, hml, hown, hts⟩ (c_hasRoom l D cI cB cZ h0 a1 (.int (nI nc)) (.ref a2) (.ref a3) L2 k (by omega) hg8 _) (cwV 1 hts gP_x_becomeFenced__c_hasRoom rfl rfl rfl (by decide +kernel) ⟨Nat.le_of_ble_eq_true rfl, Nat.le_of_ble_eq_true rfl⟩) (gx_preV (ci := 4) (q0 := 0) hK gN.nil hP hD [5, 6] rfl rfl rfl rfl) rfl rfl hl.1 rfl (lv_room (Nat.le_of_ble_eq_true rfl)) dX4_becomeFenced_78 ⟨Nat.le_of_ble_eq_true rfl, Nat.le_of_ble_eq_true rfl⟩) hP hD hS hA [5, 6] [0, 1, 2, 3, 4, 7] rfl rfl rfl (by decide) (fun r1 w1 H locs hp hP hD hS => ?_)
        obtain ⟨h9, rfl⟩ := hp
        have h9 := h9.symm
        subst h9
        refine lv_if_eq (tgt := 92) hx hb dX4_becomeFenced_81 (by decide) (fun c_4 => ?_) (fun c_4 => ?_)
        · have c_4 : ¬ (L2 k < 8) := gy_b0 c_4
          have hny9 := c_4
          refine lv_aload_n hx hb dX4_becomeFenced_92 rfl (lv_at hl 3 rfl) ?_
          refine lv_iload hx hb dX4_becomeFenced_93 (lv_at hl 2 rfl) ?_
          refine gx_goi (wc := [(h0, .inr (4, [.int (nI nc), .ref a1, .ref a2, .ref a3])), (a1, .inl (cI, 3, .inl (fun j => nI (L2 j))))]) (wr := [(a3, .inl (cI, 192, .inl pf2)), (p0, .inr (4, [.int (nI nc), .ref b1, .ref b2, .ref b3])), (b1, .inl (cI, 3, .inl (fun j => nI (L j)))), (b2, .inl (cI, 4, .inl cf)), (b3, .inl (cI, 192, .inl pg)), (a2, .inl (cI, 4, .inl (va_cpy cf (fun _ => 0) 0 0 4)))]) (va_runV (As := [.int (nI k)]) (rest := []) ⟨hx, hb, hml, hown, hts⟩ (c_hasRoom l D cI cB cZ h0 a1 (.int (nI nc)) (.ref a2) (.ref a3) L2 k (by omega) hg8 _) (cwV 1 hts gP_x_becomeFenced__c_hasRoom rfl rfl rfl (by decide +kernel) ⟨Nat.le_of_ble_eq_true rfl, Nat.le_of_ble_eq_true rfl⟩) (gx_preV (ci := 4) (q0 := 0) hK gN.nil hP hD [6, 7] rfl rfl rfl rfl) rfl rfl hl.1 rfl (lv_room (Nat.le_of_ble_eq_true rfl)) dX4_becomeFenced_95 ⟨Nat.le_of_ble_eq_true rfl, Nat.le_of_ble_eq_true rfl⟩) hP hD hS hA [6, 7] [0, 1, 2, 3, 4, 5] rfl rfl rfl (by decide) (fun r1 w1 H locs hp hP hD hS => ?_)
          obtain ⟨h9, rfl⟩ := hp
          have h9 := h9.symm
          subst h9
          refine lv_if_eq (tgt := 146) hx hb dX4_becomeFenced_98 (by decide) (fun c_5 => ?_) (fun c_5 => ?_)
          · have c_5 : ¬ (L2 k < 8) := gy_b0 c_5
            refine lv_iinc (v := nI (i + 1)) (lv' := [(5, .int (nI (i + 1))), (6, .int (nI ((k * 10) + i))), (4, .int (nI k)), (0, .ref h0), (1, .ref p0), (2, .int x), (3, .int y)]) hx hb dX4_becomeFenced_146 hl (k := 1) rfl (nI_add i 1) (by decide) rfl (fun ls hl => ?_)
            refine lv_goto (tgt := 41) hx hb dX4_becomeFenced_149 (by decide) ?_
            have hP := hP.sub (ws' := [(a3, .inl (cI, 192, .inl pf2)), (p0, .inr (4, [.int (nI nc), .ref b1, .ref b2, .ref b3])), (b1, .inl (cI, 3, .inl (fun j => nI (L j)))), (b2, .inl (cI, 4, .inl cf)), (b3, .inl (cI, 192, .inl pg)), (h0, .inr (4, [.int (nI nc), .ref a1, .ref a2, .ref a3])), (a1, .inl (cI, 3, .inl (fun j => nI (L2 j)))), (a2, .inl (cI, 4, .inl (va_cpy cf (fun _ => 0) 0 0 4)))]) [0, 1, 2, 3, 4, 6, 7, 5] rfl
            have hD := hD.sub (ws' := [(a3, .inl (cI, 192, .inl pf2)), (p0, .inr (4, [.int (nI nc), .ref b1, .ref b2, .ref b3])), (b1, .inl (cI, 3, .inl (fun j => nI (L j)))), (b2, .inl (cI, 4, .inl cf)), (b3, .inl (cI, 192, .inl pg)), (h0, .inr (4, [.int (nI nc), .ref a1, .ref a2, .ref a3])), (a1, .inl (cI, 3, .inl (fun j => nI (L2 j)))), (a2, .inl (cI, 4, .inl (va_cpy cf (fun _ => 0) 0 0 4)))]) [0, 1, 2, 3, 4, 6, 7, 5] (by decide) rfl
            exact ih41 ((i + 1), L2, pf2) H locs ls ⟨(by show (i + 1) ≤ L k; omega), hg8, hgG, (by show gFs2 pg L fa fb k (i + 1) L2 pf2; first | exact gFs2_n hne hL6 (by omega) (by omega) hi41_3 (gPt_n (by omega) (by omega) hxa hyb hnx9 hny9) hvv | exact gFs2_f hne hL6 (by omega) (by omega) hi41_3 hput hvv | (exfalso; omega)), hP, hD, hS, lv_sub hl [0, 2, 3, 4, 5, 6] rfl⟩ (by show L k - (i + 1) < L k - i; omega)
          · have c_5 : L2 k < 8 := gy_b1 c_5
            refine lv_aload_n hx hb dX4_becomeFenced_101 rfl (lv_at hl 4 rfl) ?_
            refine lv_iload hx hb dX4_becomeFenced_102 (lv_at hl 2 rfl) ?_
            refine lv_iload hx hb dX4_becomeFenced_104 (lv_at hl 1 rfl) ?_
            refine lv_bipush (v := 7) hx hb dX4_becomeFenced_106 (by decide) ?_
            refine gx_goi (wc := [(p0, .inr (4, [.int (nI nc), .ref b1, .ref b2, .ref b3])), (b3, .inl (cI, 192, .inl pg))]) (wr := [(a3, .inl (cI, 192, .inl pf2)), (b1, .inl (cI, 3, .inl (fun j => nI (L j)))), (b2, .inl (cI, 4, .inl cf)), (a2, .inl (cI, 4, .inl (va_cpy cf (fun _ => 0) 0 0 4))), (h0, .inr (4, [.int (nI nc), .ref a1, .ref a2, .ref a3])), (a1, .inl (cI, 3, .inl (fun j => nI (L2 j))))]) (va_runV (As := [.int (nI k), .int (nI i), .int 7]) (rest := []) ⟨hx, hb, hml, hown, hts⟩ (c_part l D cI cB cZ p0 b3 (.int (nI nc)) (.ref b1) (.ref b2) pg k i 7 (by omega) (by omega) (by omega) _) (cwV 3 hts gP_x_becomeFenced__c_part rfl rfl rfl (by decide +kernel) ⟨Nat.le_of_ble_eq_true rfl, Nat.le_of_ble_eq_true rfl⟩) (gx_preV (ci := 4) (q0 := 0) hK gN.nil hP hD [1, 4] rfl rfl rfl rfl) rfl rfl hl.1 rfl (lv_room (Nat.le_of_ble_eq_true rfl)) dX4_becomeFenced_108 ⟨Nat.le_of_ble_eq_true rfl, Nat.le_of_ble_eq_true rfl⟩) hP hD hS hA [1, 4] [0, 2, 3, 5, 6, 7] rfl rfl rfl (by decide) (fun r1 w1 H locs hp hP hD hS => ?_)
            obtain ⟨h9, rfl⟩ := hp
            have h9 := h9.symm
            subst h9
            refine lv_istore (lv' := [(7, .int (pg ((((k * 8) + i) * 8) + 7))), (6, .int (nI ((k * 10) + i))), (5, .int (nI i)), (4, .int (nI k)), (0, .ref h0), (1, .ref p0), (2, .int x), (3, .int y)]) hx hb dX4_becomeFenced_111 hl (by decide) rfl (fun ls hl => ?_)
            refine lv_iload hx hb dX4_becomeFenced_113 (lv_at hl 1 rfl) ?_
            refine lv_iload hx hb dX4_becomeFenced_115 (lv_at hl 0 rfl) ?_
            refine lv_iload_n hx hb dX4_becomeFenced_117 rfl (lv_at hl 6 rfl) ?_
            refine gx_goi (wc := []) (wr := [(a3, .inl (cI, 192, .inl pf2)), (b1, .inl (cI, 3, .inl (fun j => nI (L j)))), (b2, .inl (cI, 4, .inl cf)), (a2, .inl (cI, 4, .inl (va_cpy cf (fun _ => 0) 0 0 4))), (h0, .inr (4, [.int (nI nc), .ref a1, .ref a2, .ref a3])), (a1, .inl (cI, 3, .inl (fun j => nI (L2 j)))), (p0, .inr (4, [.int (nI nc), .ref b1, .ref b2, .ref b3])), (b3, .inl (cI, 192, .inl pg))]) (va_runS (As := [.int (nI ((k * 10) + i)), .int (pg ((((k * 8) + i) * 8) + 7)), .int x]) (rest := []) ⟨hx, hb, hml, hown, hts⟩ (x_within l D cI cB cZ (nI ((k * 10) + i)) (pg ((((k * 8) + i) * 8) + 7)) x _) (va_cwS 3 hts gP_x_becomeFenced__x_within rfl rfl rfl (by decide +kernel) ⟨Nat.le_of_ble_eq_true rfl, Nat.le_of_ble_eq_true rfl⟩) (gx_preS hK gN.nil hP hD [] rfl rfl) rfl rfl hl.1 rfl (lv_room (Nat.le_of_ble_eq_true rfl)) dX4_becomeFenced_118 ⟨Nat.le_of_ble_eq_true rfl, Nat.le_of_ble_eq_true rfl⟩) hP hD hS hA [] [0, 1, 2, 3, 4, 5, 6, 7] rfl rfl rfl (by decide) (fun r1 w1 H locs hp hP hD hS => ?_)
            obtain ⟨e_6, hq_7, hx118_0, h9, rfl⟩ := hp
            have h9 := h9.symm
            subst h9
            have hq_7 : e_6 ≤ 1 := hq_7
            have hx118_0 : gWi (nI ((k * 10) + i)) (pg ((((k * 8) + i) * 8) + 7)) x e_6 := hx118_0
            have hw1 := hx118_0
            refine lv_iload hx hb dX4_becomeFenced_121 (lv_at hl 1 rfl) ?_
            refine lv_iload hx hb dX4_becomeFenced_123 (lv_at hl 0 rfl) ?_
            refine lv_iload_n hx hb dX4_becomeFenced_125 rfl (lv_at hl 7 rfl) ?_
            refine gx_goi (wc := []) (wr := [(a3, .inl (cI, 192, .inl pf2)), (b1, .inl (cI, 3, .inl (fun j => nI (L j)))), (b2, .inl (cI, 4, .inl cf)), (a2, .inl (cI, 4, .inl (va_cpy cf (fun _ => 0) 0 0 4))), (h0, .inr (4, [.int (nI nc), .ref a1, .ref a2, .ref a3])), (a1, .inl (cI, 3, .inl (fun j => nI (L2 j)))), (p0, .inr (4, [.int (nI nc), .ref b1, .ref b2, .ref b3])), (b3, .inl (cI, 192, .inl pg))]) (va_runS (As := [.int (nI ((k * 10) + i)), .int (pg ((((k * 8) + i) * 8) + 7)), .int y]) (rest := [.int (nI e_6)]) ⟨hx, hb, hml, hown, hts⟩ (x_within l D cI cB cZ (nI ((k * 10) + i)) (pg ((((k * 8) + i) * 8) + 7)) y _) (va_cwS 3 hts gP_x_becomeFenced__x_within rfl rfl rfl (by decide +kernel) ⟨Nat.le_of_ble_eq_true rfl, Nat.le_of_ble_eq_true rfl⟩) (gx_preS hK gN.nil hP hD [] rfl rfl) rfl rfl hl.1 rfl (lv_room (Nat.le_of_ble_eq_true rfl)) dX4_becomeFenced_126 ⟨Nat.le_of_ble_eq_true rfl, Nat.le_of_ble_eq_true rfl⟩) hP hD hS hA [] [0, 1, 2, 3, 4, 5, 6, 7] rfl rfl rfl (by decide) (fun r1 w1 H locs hp hP hD hS => ?_)
            obtain ⟨e_8, hq_9, hx126_0, h9, rfl⟩ := hp
            have h9 := h9.symm
            subst h9
            have hq_9 : e_8 ≤ 1 := hq_9
            have hx126_0 : gWi (nI ((k * 10) + i)) (pg ((((k * 8) + i) * 8) + 7)) y e_8 := hx126_0
            have hw2 := hx126_0
            refine lv_iadd hx hb dX4_becomeFenced_129 ?_
            refine gx_top (y := nI (e_6 + e_8)) (nI_add e_6 e_8) ?_
            refine lv_istore (lv' := [(8, .int (nI (e_6 + e_8))), (7, .int (pg ((((k * 8) + i) * 8) + 7))), (6, .int (nI ((k * 10) + i))), (5, .int (nI i)), (4, .int (nI k)), (0, .ref h0), (1, .ref p0), (2, .int x), (3, .int y)]) hx hb dX4_becomeFenced_130 hl (by decide) rfl (fun ls hl => ?_)
            refine lv_aload_n hx hb dX4_becomeFenced_132 rfl (lv_at hl 5 rfl) ?_
            refine lv_aload_n hx hb dX4_becomeFenced_133 rfl (lv_at hl 6 rfl) ?_
            refine lv_iload hx hb dX4_becomeFenced_134 (lv_at hl 4 rfl) ?_
            refine lv_iload hx hb dX4_becomeFenced_136 (lv_at hl 3 rfl) ?_
            refine lv_iload hx hb dX4_becomeFenced_138 (lv_at hl 1 rfl) ?_
            refine lv_iload hx hb dX4_becomeFenced_140 (lv_at hl 0 rfl) ?_
            refine lv_iadd hx hb dX4_becomeFenced_142 ?_
            have hgG2 := gG_add (k := k) (pf' := upd (va_cpy pg (gBlank pf2 (((k * 8) + (L2 k)) * 8) (pg (((k * 8) + i) * 8 + 0))) (((k * 8) + i) * 8) (((k * 8) + (L2 k)) * 8) 8) ((((k * 8) + (L2 k)) * 8) + 7) ((pg ((((k * 8) + i) * 8) + 7)) + (nI (e_6 + e_8)))) hgG hg8 (by omega) (by omega) rfl (fun j h => by rw [pk_un (by omega), pk_cpy_out (by omega)]; exact gBlank_out h) (gIns_copy (hI k (by omega) i (by omega)) (by omega))
            have hg82 := gL8_add (k := k) hg8 (by omega)
            have hvv := gWi_v (pg := pg) (by omega) (by omega) hxa hyb hw1 hw2
            refine gx_gov (wc := [(h0, .inr (4, [.int (nI nc), .ref a1, .ref a2, .ref a3])), (a1, .inl (cI, 3, .inl (fun j => nI (L2 j)))), (a3, .inl (cI, 192, .inl pf2)), (p0, .inr (4, [.int (nI nc), .ref b1, .ref b2, .ref b3])), (b3, .inl (cI, 192, .inl pg))]) (wr := [(b1, .inl (cI, 3, .inl (fun j => nI (L j)))), (b2, .inl (cI, 4, .inl cf)), (a2, .inl (cI, 4, .inl (va_cpy cf (fun _ => 0) 0 0 4)))]) (va_runV (As := [.ref p0, .int (nI k), .int (nI i), .int ((pg ((((k * 8) + i) * 8) + 7)) + (nI (e_6 + e_8)))]) (rest := []) ⟨hx, hb, hml, hown, hts⟩ (c_copyIns l D cI cB cZ h0 a1 a3 p0 b3 (.int (nI nc)) (.ref a2) (.int (nI nc)) (.ref b1) (.ref b2) L2 pf2 pg k i (((k * 8) + i) * 8) (((k * 8) + (L2 k)) * 8) ((pg ((((k * 8) + i) * 8) + 7)) + (nI (e_6 + e_8))) (by omega) (by omega) (by omega) rfl rfl _) (cwV 4 hts gP_x_becomeFenced__c_copyIns rfl rfl rfl (by decide +kernel) ⟨Nat.le_of_ble_eq_true rfl, Nat.le_of_ble_eq_true rfl⟩) (gx_preV (ci := 4) (q0 := 0) hK gN.nil hP hD [4, 5, 0, 6, 7] rfl rfl rfl rfl) rfl rfl hl.1 rfl (lv_room (Nat.le_of_ble_eq_true rfl)) dX4_becomeFenced_143 ⟨Nat.le_of_ble_eq_true rfl, Nat.le_of_ble_eq_true rfl⟩) hP hD hS hA [4, 5, 0, 6, 7] [1, 2, 3] rfl rfl rfl (by decide) (fun w1 H locs hp hP hD hS => ?_)
            obtain ⟨rfl⟩ := hp
            have hgG := hgG2
            have hg8 := hg82
            refine lv_iinc (v := nI (i + 1)) (lv' := [(5, .int (nI (i + 1))), (8, .int (nI (e_6 + e_8))), (7, .int (pg ((((k * 8) + i) * 8) + 7))), (6, .int (nI ((k * 10) + i))), (4, .int (nI k)), (0, .ref h0), (1, .ref p0), (2, .int x), (3, .int y)]) hx hb dX4_becomeFenced_146 hl (k := 3) rfl (nI_add i 1) (by decide) rfl (fun ls hl => ?_)
            refine lv_goto (tgt := 41) hx hb dX4_becomeFenced_149 (by decide) ?_
            have hP := hP.sub (ws' := [(a3, .inl (cI, 192, .inl (upd (va_cpy pg (gBlank pf2 (((k * 8) + (L2 k)) * 8) (pg ((((k * 8) + i) * 8) + 0))) (((k * 8) + i) * 8) (((k * 8) + (L2 k)) * 8) 8) ((((k * 8) + (L2 k)) * 8) + 7) ((pg ((((k * 8) + i) * 8) + 7)) + (nI (e_6 + e_8)))))), (p0, .inr (4, [.int (nI nc), .ref b1, .ref b2, .ref b3])), (b1, .inl (cI, 3, .inl (fun j => nI (L j)))), (b2, .inl (cI, 4, .inl cf)), (b3, .inl (cI, 192, .inl pg)), (h0, .inr (4, [.int (nI nc), .ref a1, .ref a2, .ref a3])), (a1, .inl (cI, 3, .inl (fun j => nI ((updN L2 k ((L2 k) + 1)) j)))), (a2, .inl (cI, 4, .inl (va_cpy cf (fun _ => 0) 0 0 4)))]) [5, 6, 0, 1, 7, 3, 4, 2] rfl
            have hD := hD.sub (ws' := [(a3, .inl (cI, 192, .inl (upd (va_cpy pg (gBlank pf2 (((k * 8) + (L2 k)) * 8) (pg ((((k * 8) + i) * 8) + 0))) (((k * 8) + i) * 8) (((k * 8) + (L2 k)) * 8) 8) ((((k * 8) + (L2 k)) * 8) + 7) ((pg ((((k * 8) + i) * 8) + 7)) + (nI (e_6 + e_8)))))), (p0, .inr (4, [.int (nI nc), .ref b1, .ref b2, .ref b3])), (b1, .inl (cI, 3, .inl (fun j => nI (L j)))), (b2, .inl (cI, 4, .inl cf)), (b3, .inl (cI, 192, .inl pg)), (h0, .inr (4, [.int (nI nc), .ref a1, .ref a2, .ref a3])), (a1, .inl (cI, 3, .inl (fun j => nI ((updN L2 k ((L2 k) + 1)) j)))), (a2, .inl (cI, 4, .inl (va_cpy cf (fun _ => 0) 0 0 4)))]) [5, 6, 0, 1, 7, 3, 4, 2] (by decide) rfl
            exact ih41 ((i + 1), (updN L2 k ((L2 k) + 1)), (upd (va_cpy pg (gBlank pf2 (((k * 8) + (L2 k)) * 8) (pg ((((k * 8) + i) * 8) + 0))) (((k * 8) + i) * 8) (((k * 8) + (L2 k)) * 8) 8) ((((k * 8) + (L2 k)) * 8) + 7) ((pg ((((k * 8) + i) * 8) + 7)) + (nI (e_6 + e_8))))) H locs ls ⟨(by show (i + 1) ≤ L k; omega), hg8, hgG, (by show gFs2 pg L fa fb k (i + 1) (updN L2 k ((L2 k) + 1)) (upd (va_cpy pg (gBlank pf2 (((k * 8) + (L2 k)) * 8) (pg ((((k * 8) + i) * 8) + 0))) (((k * 8) + i) * 8) (((k * 8) + (L2 k)) * 8) 8) ((((k * 8) + (L2 k)) * 8) + 7) ((pg ((((k * 8) + i) * 8) + 7)) + (nI (e_6 + e_8)))); first | exact gFs2_n hne hL6 (by omega) (by omega) hi41_3 (gPt_n (by omega) (by omega) hxa hyb hnx9 hny9) hvv | exact gFs2_f hne hL6 (by omega) (by omega) hi41_3 hput hvv | (exfalso; omega)), hP, hD, hS, lv_sub hl [0, 4, 5, 6, 7, 8] rfl⟩ (by show L k - (i + 1) < L k - i; omega)
        · have c_4 : L2 k < 8 := gy_b1 c_4
          refine lv_aload_n hx hb dX4_becomeFenced_84 rfl (lv_at hl 3 rfl) ?_
          refine lv_iload hx hb dX4_becomeFenced_85 (lv_at hl 2 rfl) ?_
          refine lv_iconst (v := 4) hx hb dX4_becomeFenced_87 (by decide) ?_
          refine gx_goi (wc := [(h0, .inr (4, [.int (nI nc), .ref a1, .ref a2, .ref a3])), (a1, .inl (cI, 3, .inl (fun j => nI (L2 j)))), (a3, .inl (cI, 192, .inl pf2))]) (wr := [(p0, .inr (4, [.int (nI nc), .ref b1, .ref b2, .ref b3])), (b1, .inl (cI, 3, .inl (fun j => nI (L j)))), (b2, .inl (cI, 4, .inl cf)), (b3, .inl (cI, 192, .inl pg)), (a2, .inl (cI, 4, .inl (va_cpy cf (fun _ => 0) 0 0 4)))]) (va_runV (As := [.int (nI k), .int 4]) (rest := []) ⟨hx, hb, hml, hown, hts⟩ (c_addBlank l D cI cB cZ h0 a1 a3 (.int (nI nc)) (.ref a2) L2 pf2 k (((k * 8) + (L2 k)) * 8) 4 (by omega) (by omega) rfl _) (cwV 2 hts gP_x_becomeFenced__c_addBlank rfl rfl rfl (by decide +kernel) ⟨Nat.le_of_ble_eq_true rfl, Nat.le_of_ble_eq_true rfl⟩) (gx_preV (ci := 4) (q0 := 0) hK gN.nil hP hD [6, 7, 0] rfl rfl rfl rfl) rfl rfl hl.1 rfl (lv_room (Nat.le_of_ble_eq_true rfl)) dX4_becomeFenced_88 ⟨Nat.le_of_ble_eq_true rfl, Nat.le_of_ble_eq_true rfl⟩) hP hD hS hA [6, 7, 0] [1, 2, 3, 4, 5] rfl rfl rfl (by decide) (fun r1 w1 H locs hp hP hD hS => ?_)
          obtain ⟨h9, rfl⟩ := hp
          have h9 := h9.symm
          subst h9
          have hgG : gG (updN L2 k ((L2 k) + 1)) (gBlank pf2 (((k * 8) + (L2 k)) * 8) 4) 7 := gG_add hgG hg8 (by omega) (by omega) rfl (fun j h => gBlank_out h) gIns_blank
          have hg8 : gL8 (updN L2 k ((L2 k) + 1)) := gL8_add hg8 (by omega)
          have hus9 : (updN L2 k ((L2 k) + 1)) k = L2 k + 1 := updN_s
          refine lv_pop hx hb dX4_becomeFenced_91 rfl ?_
          have hny9 := c_4
          refine lv_aload_n hx hb dX4_becomeFenced_92 rfl (lv_at hl 3 rfl) ?_
          refine lv_iload hx hb dX4_becomeFenced_93 (lv_at hl 2 rfl) ?_
          refine gx_goi (wc := [(h0, .inr (4, [.int (nI nc), .ref a1, .ref a2, .ref a3])), (a1, .inl (cI, 3, .inl (fun j => nI ((updN L2 k ((L2 k) + 1)) j))))]) (wr := [(p0, .inr (4, [.int (nI nc), .ref b1, .ref b2, .ref b3])), (b1, .inl (cI, 3, .inl (fun j => nI (L j)))), (b2, .inl (cI, 4, .inl cf)), (b3, .inl (cI, 192, .inl pg)), (a2, .inl (cI, 4, .inl (va_cpy cf (fun _ => 0) 0 0 4))), (a3, .inl (cI, 192, .inl (gBlank pf2 (((k * 8) + (L2 k)) * 8) 4)))]) (va_runV (As := [.int (nI k)]) (rest := []) ⟨hx, hb, hml, hown, hts⟩ (c_hasRoom l D cI cB cZ h0 a1 (.int (nI nc)) (.ref a2) (.ref a3) (updN L2 k ((L2 k) + 1)) k (by omega) hg8 _) (cwV 1 hts gP_x_becomeFenced__c_hasRoom rfl rfl rfl (by decide +kernel) ⟨Nat.le_of_ble_eq_true rfl, Nat.le_of_ble_eq_true rfl⟩) (gx_preV (ci := 4) (q0 := 0) hK gN.nil hP hD [5, 6] rfl rfl rfl rfl) rfl rfl hl.1 rfl (lv_room (Nat.le_of_ble_eq_true rfl)) dX4_becomeFenced_95 ⟨Nat.le_of_ble_eq_true rfl, Nat.le_of_ble_eq_true rfl⟩) hP hD hS hA [5, 6] [0, 1, 2, 3, 4, 7] rfl rfl rfl (by decide) (fun r1 w1 H locs hp hP hD hS => ?_)
          obtain ⟨h9, rfl⟩ := hp
          have h9 := h9.symm
          subst h9
          refine lv_if_eq (tgt := 146) hx hb dX4_becomeFenced_98 (by decide) (fun c_10 => ?_) (fun c_10 => ?_)
          · have c_10 : ¬ ((updN L2 k ((L2 k) + 1)) k < 8) := gy_b0 c_10
            refine lv_iinc (v := nI (i + 1)) (lv' := [(5, .int (nI (i + 1))), (6, .int (nI ((k * 10) + i))), (4, .int (nI k)), (0, .ref h0), (1, .ref p0), (2, .int x), (3, .int y)]) hx hb dX4_becomeFenced_146 hl (k := 1) rfl (nI_add i 1) (by decide) rfl (fun ls hl => ?_)
            refine lv_goto (tgt := 41) hx hb dX4_becomeFenced_149 (by decide) ?_
            have hP := hP.sub (ws' := [(a3, .inl (cI, 192, .inl (gBlank pf2 (((k * 8) + (L2 k)) * 8) 4))), (p0, .inr (4, [.int (nI nc), .ref b1, .ref b2, .ref b3])), (b1, .inl (cI, 3, .inl (fun j => nI (L j)))), (b2, .inl (cI, 4, .inl cf)), (b3, .inl (cI, 192, .inl pg)), (h0, .inr (4, [.int (nI nc), .ref a1, .ref a2, .ref a3])), (a1, .inl (cI, 3, .inl (fun j => nI ((updN L2 k ((L2 k) + 1)) j)))), (a2, .inl (cI, 4, .inl (va_cpy cf (fun _ => 0) 0 0 4)))]) [5, 0, 1, 2, 3, 6, 7, 4] rfl
            have hD := hD.sub (ws' := [(a3, .inl (cI, 192, .inl (gBlank pf2 (((k * 8) + (L2 k)) * 8) 4))), (p0, .inr (4, [.int (nI nc), .ref b1, .ref b2, .ref b3])), (b1, .inl (cI, 3, .inl (fun j => nI (L j)))), (b2, .inl (cI, 4, .inl cf)), (b3, .inl (cI, 192, .inl pg)), (h0, .inr (4, [.int (nI nc), .ref a1, .ref a2, .ref a3])), (a1, .inl (cI, 3, .inl (fun j => nI ((updN L2 k ((L2 k) + 1)) j)))), (a2, .inl (cI, 4, .inl (va_cpy cf (fun _ => 0) 0 0 4)))]) [5, 0, 1, 2, 3, 6, 7, 4] (by decide) rfl
            exact ih41 ((i + 1), (updN L2 k ((L2 k) + 1)), (gBlank pf2 (((k * 8) + (L2 k)) * 8) 4)) H locs ls ⟨(by show (i + 1) ≤ L k; omega), hg8, hgG, (by show gFs2 pg L fa fb k (i + 1) (updN L2 k ((L2 k) + 1)) (gBlank pf2 (((k * 8) + (L2 k)) * 8) 4); first | exact gFs2_n hne hL6 (by omega) (by omega) hi41_3 (gPt_n (by omega) (by omega) hxa hyb hnx9 hny9) hvv | exact gFs2_f hne hL6 (by omega) (by omega) hi41_3 hput hvv | (exfalso; omega)), hP, hD, hS, lv_sub hl [0, 2, 3, 4, 5, 6] rfl⟩ (by show L k - (i + 1) < L k - i; omega)
          · have c_10 : (updN L2 k ((L2 k) + 1)) k < 8 := gy_b1 c_10
            refine lv_aload_n hx hb dX4_becomeFenced_101 rfl (lv_at hl 4 rfl) ?_
            refine lv_iload hx hb dX4_becomeFenced_102 (lv_at hl 2 rfl) ?_
            refine lv_iload hx hb dX4_becomeFenced_104 (lv_at hl 1 rfl) ?_
            refine lv_bipush (v := 7) hx hb dX4_becomeFenced_106 (by decide) ?_
            refine gx_goi (wc := [(p0, .inr (4, [.int (nI nc), .ref b1, .ref b2, .ref b3])), (b3, .inl (cI, 192, .inl pg))]) (wr := [(b1, .inl (cI, 3, .inl (fun j => nI (L j)))), (b2, .inl (cI, 4, .inl cf)), (a2, .inl (cI, 4, .inl (va_cpy cf (fun _ => 0) 0 0 4))), (a3, .inl (cI, 192, .inl (gBlank pf2 (((k * 8) + (L2 k)) * 8) 4))), (h0, .inr (4, [.int (nI nc), .ref a1, .ref a2, .ref a3])), (a1, .inl (cI, 3, .inl (fun j => nI ((updN L2 k ((L2 k) + 1)) j))))]) (va_runV (As := [.int (nI k), .int (nI i), .int 7]) (rest := []) ⟨hx, hb, hml, hown, hts⟩ (c_part l D cI cB cZ p0 b3 (.int (nI nc)) (.ref b1) (.ref b2) pg k i 7 (by omega) (by omega) (by omega) _) (cwV 3 hts gP_x_becomeFenced__c_part rfl rfl rfl (by decide +kernel) ⟨Nat.le_of_ble_eq_true rfl, Nat.le_of_ble_eq_true rfl⟩) (gx_preV (ci := 4) (q0 := 0) hK gN.nil hP hD [0, 3] rfl rfl rfl rfl) rfl rfl hl.1 rfl (lv_room (Nat.le_of_ble_eq_true rfl)) dX4_becomeFenced_108 ⟨Nat.le_of_ble_eq_true rfl, Nat.le_of_ble_eq_true rfl⟩) hP hD hS hA [0, 3] [1, 2, 4, 5, 6, 7] rfl rfl rfl (by decide) (fun r1 w1 H locs hp hP hD hS => ?_)
            obtain ⟨h9, rfl⟩ := hp
            have h9 := h9.symm
            subst h9
            refine lv_istore (lv' := [(7, .int (pg ((((k * 8) + i) * 8) + 7))), (6, .int (nI ((k * 10) + i))), (5, .int (nI i)), (4, .int (nI k)), (0, .ref h0), (1, .ref p0), (2, .int x), (3, .int y)]) hx hb dX4_becomeFenced_111 hl (by decide) rfl (fun ls hl => ?_)
            refine lv_iload hx hb dX4_becomeFenced_113 (lv_at hl 1 rfl) ?_
            refine lv_iload hx hb dX4_becomeFenced_115 (lv_at hl 0 rfl) ?_
            refine lv_iload_n hx hb dX4_becomeFenced_117 rfl (lv_at hl 6 rfl) ?_
            refine gx_goi (wc := []) (wr := [(b1, .inl (cI, 3, .inl (fun j => nI (L j)))), (b2, .inl (cI, 4, .inl cf)), (a2, .inl (cI, 4, .inl (va_cpy cf (fun _ => 0) 0 0 4))), (a3, .inl (cI, 192, .inl (gBlank pf2 (((k * 8) + (L2 k)) * 8) 4))), (h0, .inr (4, [.int (nI nc), .ref a1, .ref a2, .ref a3])), (a1, .inl (cI, 3, .inl (fun j => nI ((updN L2 k ((L2 k) + 1)) j)))), (p0, .inr (4, [.int (nI nc), .ref b1, .ref b2, .ref b3])), (b3, .inl (cI, 192, .inl pg))]) (va_runS (As := [.int (nI ((k * 10) + i)), .int (pg ((((k * 8) + i) * 8) + 7)), .int x]) (rest := []) ⟨hx, hb, hml, hown, hts⟩ (x_within l D cI cB cZ (nI ((k * 10) + i)) (pg ((((k * 8) + i) * 8) + 7)) x _) (va_cwS 3 hts gP_x_becomeFenced__x_within rfl rfl rfl (by decide +kernel) ⟨Nat.le_of_ble_eq_true rfl, Nat.le_of_ble_eq_true rfl⟩) (gx_preS hK gN.nil hP hD [] rfl rfl) rfl rfl hl.1 rfl (lv_room (Nat.le_of_ble_eq_true rfl)) dX4_becomeFenced_118 ⟨Nat.le_of_ble_eq_true rfl, Nat.le_of_ble_eq_true rfl⟩) hP hD hS hA [] [0, 1, 2, 3, 4, 5, 6, 7] rfl rfl rfl (by decide) (fun r1 w1 H locs hp hP hD hS => ?_)
            obtain ⟨e_11, hq_12, hx118_0, h9, rfl⟩ := hp
            have h9 := h9.symm
            subst h9
            have hq_12 : e_11 ≤ 1 := hq_12
            have hx118_0 : gWi (nI ((k * 10) + i)) (pg ((((k * 8) + i) * 8) + 7)) x e_11 := hx118_0
            have hw1 := hx118_0
            refine lv_iload hx hb dX4_becomeFenced_121 (lv_at hl 1 rfl) ?_
            refine lv_iload hx hb dX4_becomeFenced_123 (lv_at hl 0 rfl) ?_
            refine lv_iload_n hx hb dX4_becomeFenced_125 rfl (lv_at hl 7 rfl) ?_
            refine gx_goi (wc := []) (wr := [(b1, .inl (cI, 3, .inl (fun j => nI (L j)))), (b2, .inl (cI, 4, .inl cf)), (a2, .inl (cI, 4, .inl (va_cpy cf (fun _ => 0) 0 0 4))), (a3, .inl (cI, 192, .inl (gBlank pf2 (((k * 8) + (L2 k)) * 8) 4))), (h0, .inr (4, [.int (nI nc), .ref a1, .ref a2, .ref a3])), (a1, .inl (cI, 3, .inl (fun j => nI ((updN L2 k ((L2 k) + 1)) j)))), (p0, .inr (4, [.int (nI nc), .ref b1, .ref b2, .ref b3])), (b3, .inl (cI, 192, .inl pg))]) (va_runS (As := [.int (nI ((k * 10) + i)), .int (pg ((((k * 8) + i) * 8) + 7)), .int y]) (rest := [.int (nI e_11)]) ⟨hx, hb, hml, hown, hts⟩ (x_within l D cI cB cZ (nI ((k * 10) + i)) (pg ((((k * 8) + i) * 8) + 7)) y _) (va_cwS 3 hts gP_x_becomeFenced__x_within rfl rfl rfl (by decide +kernel) ⟨Nat.le_of_ble_eq_true rfl, Nat.le_of_ble_eq_true rfl⟩) (gx_preS hK gN.nil hP hD [] rfl rfl) rfl rfl hl.1 rfl (lv_room (Nat.le_of_ble_eq_true rfl)) dX4_becomeFenced_126 ⟨Nat.le_of_ble_eq_true rfl, Nat.le_of_ble_eq_true rfl⟩) hP hD hS hA [] [0, 1, 2, 3, 4, 5, 6, 7] rfl rfl rfl (by decide) (fun r1 w1 H locs hp hP hD hS => ?_)
            obtain ⟨e_13, hq_14, hx126_0, h9, rfl⟩ := hp
            have h9 := h9.symm
            subst h9
            have hq_14 : e_13 ≤ 1 := hq_14
            have hx126_0 : gWi (nI ((k * 10) + i)) (pg ((((k * 8) + i) * 8) + 7)) y e_13 := hx126_0
            have hw2 := hx126_0
            refine lv_iadd hx hb dX4_becomeFenced_129 ?_
            refine gx_top (y := nI (e_11 + e_13)) (nI_add e_11 e_13) ?_
            refine lv_istore (lv' := [(8, .int (nI (e_11 + e_13))), (7, .int (pg ((((k * 8) + i) * 8) + 7))), (6, .int (nI ((k * 10) + i))), (5, .int (nI i)), (4, .int (nI k)), (0, .ref h0), (1, .ref p0), (2, .int x), (3, .int y)]) hx hb dX4_becomeFenced_130 hl (by decide) rfl (fun ls hl => ?_)
            refine lv_aload_n hx hb dX4_becomeFenced_132 rfl (lv_at hl 5 rfl) ?_
            refine lv_aload_n hx hb dX4_becomeFenced_133 rfl (lv_at hl 6 rfl) ?_
            refine lv_iload hx hb dX4_becomeFenced_134 (lv_at hl 4 rfl) ?_
            refine lv_iload hx hb dX4_becomeFenced_136 (lv_at hl 3 rfl) ?_
            refine lv_iload hx hb dX4_becomeFenced_138 (lv_at hl 1 rfl) ?_
            refine lv_iload hx hb dX4_becomeFenced_140 (lv_at hl 0 rfl) ?_
            refine lv_iadd hx hb dX4_becomeFenced_142 ?_
            have hgG2 := gG_add (k := k) (pf' := upd (va_cpy pg (gBlank (gBlank pf2 (((k * 8) + (L2 k)) * 8) 4) (((k * 8) + ((updN L2 k ((L2 k) + 1)) k)) * 8) (pg (((k * 8) + i) * 8 + 0))) (((k * 8) + i) * 8) (((k * 8) + ((updN L2 k ((L2 k) + 1)) k)) * 8) 8) ((((k * 8) + ((updN L2 k ((L2 k) + 1)) k)) * 8) + 7) ((pg ((((k * 8) + i) * 8) + 7)) + (nI (e_11 + e_13)))) hgG hg8 (by omega) (by omega) rfl (fun j h => by rw [pk_un (by omega), pk_cpy_out (by omega)]; exact gBlank_out h) (gIns_copy (hI k (by omega) i (by omega)) (by omega))
            have hg82 := gL8_add (k := k) hg8 (by omega)
            have hvv := gWi_v (pg := pg) (by omega) (by omega) hxa hyb hw1 hw2
            refine gx_gov (wc := [(h0, .inr (4, [.int (nI nc), .ref a1, .ref a2, .ref a3])), (a1, .inl (cI, 3, .inl (fun j => nI ((updN L2 k ((L2 k) + 1)) j)))), (a3, .inl (cI, 192, .inl (gBlank pf2 (((k * 8) + (L2 k)) * 8) 4))), (p0, .inr (4, [.int (nI nc), .ref b1, .ref b2, .ref b3])), (b3, .inl (cI, 192, .inl pg))]) (wr := [(b1, .inl (cI, 3, .inl (fun j => nI (L j)))), (b2, .inl (cI, 4, .inl cf)), (a2, .inl (cI, 4, .inl (va_cpy cf (fun _ => 0) 0 0 4)))]) (va_runV (As := [.ref p0, .int (nI k), .int (nI i), .int ((pg ((((k * 8) + i) * 8) + 7)) + (nI (e_11 + e_13)))]) (rest := []) ⟨hx, hb, hml, hown, hts⟩ (c_copyIns l D cI cB cZ h0 a1 a3 p0 b3 (.int (nI nc)) (.ref a2) (.int (nI nc)) (.ref b1) (.ref b2) (updN L2 k ((L2 k) + 1)) (gBlank pf2 (((k * 8) + (L2 k)) * 8) 4) pg k i (((k * 8) + i) * 8) (((k * 8) + ((updN L2 k ((L2 k) + 1)) k)) * 8) ((pg ((((k * 8) + i) * 8) + 7)) + (nI (e_11 + e_13))) (by omega) (by omega) (by omega) rfl rfl _) (cwV 4 hts gP_x_becomeFenced__c_copyIns rfl rfl rfl (by decide +kernel) ⟨Nat.le_of_ble_eq_true rfl, Nat.le_of_ble_eq_true rfl⟩) (gx_preV (ci := 4) (q0 := 0) hK gN.nil hP hD [4, 5, 3, 6, 7] rfl rfl rfl rfl) rfl rfl hl.1 rfl (lv_room (Nat.le_of_ble_eq_true rfl)) dX4_becomeFenced_143 ⟨Nat.le_of_ble_eq_true rfl, Nat.le_of_ble_eq_true rfl⟩) hP hD hS hA [4, 5, 3, 6, 7] [0, 1, 2] rfl rfl rfl (by decide) (fun w1 H locs hp hP hD hS => ?_)
            obtain ⟨rfl⟩ := hp
            have hgG := hgG2
            have hg8 := hg82
            refine lv_iinc (v := nI (i + 1)) (lv' := [(5, .int (nI (i + 1))), (8, .int (nI (e_11 + e_13))), (7, .int (pg ((((k * 8) + i) * 8) + 7))), (6, .int (nI ((k * 10) + i))), (4, .int (nI k)), (0, .ref h0), (1, .ref p0), (2, .int x), (3, .int y)]) hx hb dX4_becomeFenced_146 hl (k := 3) rfl (nI_add i 1) (by decide) rfl (fun ls hl => ?_)
            refine lv_goto (tgt := 41) hx hb dX4_becomeFenced_149 (by decide) ?_
            have hP := hP.sub (ws' := [(a3, .inl (cI, 192, .inl (upd (va_cpy pg (gBlank (gBlank pf2 (((k * 8) + (L2 k)) * 8) 4) (((k * 8) + ((updN L2 k ((L2 k) + 1)) k)) * 8) (pg ((((k * 8) + i) * 8) + 0))) (((k * 8) + i) * 8) (((k * 8) + ((updN L2 k ((L2 k) + 1)) k)) * 8) 8) ((((k * 8) + ((updN L2 k ((L2 k) + 1)) k)) * 8) + 7) ((pg ((((k * 8) + i) * 8) + 7)) + (nI (e_11 + e_13)))))), (p0, .inr (4, [.int (nI nc), .ref b1, .ref b2, .ref b3])), (b1, .inl (cI, 3, .inl (fun j => nI (L j)))), (b2, .inl (cI, 4, .inl cf)), (b3, .inl (cI, 192, .inl pg)), (h0, .inr (4, [.int (nI nc), .ref a1, .ref a2, .ref a3])), (a1, .inl (cI, 3, .inl (fun j => nI ((updN (updN L2 k ((L2 k) + 1)) k (((updN L2 k ((L2 k) + 1)) k) + 1)) j)))), (a2, .inl (cI, 4, .inl (va_cpy cf (fun _ => 0) 0 0 4)))]) [5, 6, 0, 1, 7, 3, 4, 2] rfl
            have hD := hD.sub (ws' := [(a3, .inl (cI, 192, .inl (upd (va_cpy pg (gBlank (gBlank pf2 (((k * 8) + (L2 k)) * 8) 4) (((k * 8) + ((updN L2 k ((L2 k) + 1)) k)) * 8) (pg ((((k * 8) + i) * 8) + 0))) (((k * 8) + i) * 8) (((k * 8) + ((updN L2 k ((L2 k) + 1)) k)) * 8) 8) ((((k * 8) + ((updN L2 k ((L2 k) + 1)) k)) * 8) + 7) ((pg ((((k * 8) + i) * 8) + 7)) + (nI (e_11 + e_13)))))), (p0, .inr (4, [.int (nI nc), .ref b1, .ref b2, .ref b3])), (b1, .inl (cI, 3, .inl (fun j => nI (L j)))), (b2, .inl (cI, 4, .inl cf)), (b3, .inl (cI, 192, .inl pg)), (h0, .inr (4, [.int (nI nc), .ref a1, .ref a2, .ref a3])), (a1, .inl (cI, 3, .inl (fun j => nI ((updN (updN L2 k ((L2 k) + 1)) k (((updN L2 k ((L2 k) + 1)) k) + 1)) j)))), (a2, .inl (cI, 4, .inl (va_cpy cf (fun _ => 0) 0 0 4)))]) [5, 6, 0, 1, 7, 3, 4, 2] (by decide) rfl
            exact ih41 ((i + 1), (updN (updN L2 k ((L2 k) + 1)) k (((updN L2 k ((L2 k) + 1)) k) + 1)), (upd (va_cpy pg (gBlank (gBlank pf2 (((k * 8) + (L2 k)) * 8) 4) (((k * 8) + ((updN L2 k ((L2 k) + 1)) k)) * 8) (pg ((((k * 8) + i) * 8) + 0))) (((k * 8) + i) * 8) (((k * 8) + ((updN L2 k ((L2 k) + 1)) k)) * 8) 8) ((((k * 8) + ((updN L2 k ((L2 k) + 1)) k)) * 8) + 7) ((pg ((((k * 8) + i) * 8) + 7)) + (nI (e_11 + e_13))))) H locs ls ⟨(by show (i + 1) ≤ L k; omega), hg8, hgG, (by show gFs2 pg L fa fb k (i + 1) (updN (updN L2 k ((L2 k) + 1)) k (((updN L2 k ((L2 k) + 1)) k) + 1)) (upd (va_cpy pg (gBlank (gBlank pf2 (((k * 8) + (L2 k)) * 8) 4) (((k * 8) + ((updN L2 k ((L2 k) + 1)) k)) * 8) (pg ((((k * 8) + i) * 8) + 0))) (((k * 8) + i) * 8) (((k * 8) + ((updN L2 k ((L2 k) + 1)) k)) * 8) 8) ((((k * 8) + ((updN L2 k ((L2 k) + 1)) k)) * 8) + 7) ((pg ((((k * 8) + i) * 8) + 7)) + (nI (e_11 + e_13)))); first | exact gFs2_n hne hL6 (by omega) (by omega) hi41_3 (gPt_n (by omega) (by omega) hxa hyb hnx9 hny9) hvv | exact gFs2_f hne hL6 (by omega) (by omega) hi41_3 hput hvv | (exfalso; omega)), hP, hD, hS, lv_sub hl [0, 4, 5, 6, 7, 8] rfl⟩ (by show L k - (i + 1) < L k - i; omega)
      · have hnx9 := c_3
        refine lv_iload hx hb dX4_becomeFenced_69 (lv_at hl 0 rfl) ?_
        refine lv_iload_n hx hb dX4_becomeFenced_71 rfl (lv_at hl 6 rfl) ?_
        refine lv_icmp_ne (tgt := 92) hx hb dX4_becomeFenced_72 (by decide) (fun c_15 => ?_) (fun c_15 => ?_)
        · have hny9 := c_15
          refine lv_aload_n hx hb dX4_becomeFenced_92 rfl (lv_at hl 3 rfl) ?_
          refine lv_iload hx hb dX4_becomeFenced_93 (lv_at hl 2 rfl) ?_
          refine gx_goi (wc := [(h0, .inr (4, [.int (nI nc), .ref a1, .ref a2, .ref a3])), (a1, .inl (cI, 3, .inl (fun j => nI (L2 j))))]) (wr := [(a3, .inl (cI, 192, .inl pf2)), (p0, .inr (4, [.int (nI nc), .ref b1, .ref b2, .ref b3])), (b1, .inl (cI, 3, .inl (fun j => nI (L j)))), (b2, .inl (cI, 4, .inl cf)), (b3, .inl (cI, 192, .inl pg)), (a2, .inl (cI, 4, .inl (va_cpy cf (fun _ => 0) 0 0 4)))]) (va_runV (As := [.int (nI k)]) (rest := []) ⟨hx, hb, hml, hown, hts⟩ (c_hasRoom l D cI cB cZ h0 a1 (.int (nI nc)) (.ref a2) (.ref a3) L2 k (by omega) hg8 _) (cwV 1 hts gP_x_becomeFenced__c_hasRoom rfl rfl rfl (by decide +kernel) ⟨Nat.le_of_ble_eq_true rfl, Nat.le_of_ble_eq_true rfl⟩) (gx_preV (ci := 4) (q0 := 0) hK gN.nil hP hD [5, 6] rfl rfl rfl rfl) rfl rfl hl.1 rfl (lv_room (Nat.le_of_ble_eq_true rfl)) dX4_becomeFenced_95 ⟨Nat.le_of_ble_eq_true rfl, Nat.le_of_ble_eq_true rfl⟩) hP hD hS hA [5, 6] [0, 1, 2, 3, 4, 7] rfl rfl rfl (by decide) (fun r1 w1 H locs hp hP hD hS => ?_)
          obtain ⟨h9, rfl⟩ := hp
          have h9 := h9.symm
          subst h9
          refine lv_if_eq (tgt := 146) hx hb dX4_becomeFenced_98 (by decide) (fun c_16 => ?_) (fun c_16 => ?_)
          · have c_16 : ¬ (L2 k < 8) := gy_b0 c_16
            refine lv_iinc (v := nI (i + 1)) (lv' := [(5, .int (nI (i + 1))), (6, .int (nI ((k * 10) + i))), (4, .int (nI k)), (0, .ref h0), (1, .ref p0), (2, .int x), (3, .int y)]) hx hb dX4_becomeFenced_146 hl (k := 1) rfl (nI_add i 1) (by decide) rfl (fun ls hl => ?_)
            refine lv_goto (tgt := 41) hx hb dX4_becomeFenced_149 (by decide) ?_
            have hP := hP.sub (ws' := [(a3, .inl (cI, 192, .inl pf2)), (p0, .inr (4, [.int (nI nc), .ref b1, .ref b2, .ref b3])), (b1, .inl (cI, 3, .inl (fun j => nI (L j)))), (b2, .inl (cI, 4, .inl cf)), (b3, .inl (cI, 192, .inl pg)), (h0, .inr (4, [.int (nI nc), .ref a1, .ref a2, .ref a3])), (a1, .inl (cI, 3, .inl (fun j => nI (L2 j)))), (a2, .inl (cI, 4, .inl (va_cpy cf (fun _ => 0) 0 0 4)))]) [0, 1, 2, 3, 4, 6, 7, 5] rfl
            have hD := hD.sub (ws' := [(a3, .inl (cI, 192, .inl pf2)), (p0, .inr (4, [.int (nI nc), .ref b1, .ref b2, .ref b3])), (b1, .inl (cI, 3, .inl (fun j => nI (L j)))), (b2, .inl (cI, 4, .inl cf)), (b3, .inl (cI, 192, .inl pg)), (h0, .inr (4, [.int (nI nc), .ref a1, .ref a2, .ref a3])), (a1, .inl (cI, 3, .inl (fun j => nI (L2 j)))), (a2, .inl (cI, 4, .inl (va_cpy cf (fun _ => 0) 0 0 4)))]) [0, 1, 2, 3, 4, 6, 7, 5] (by decide) rfl
            exact ih41 ((i + 1), L2, pf2) H locs ls ⟨(by show (i + 1) ≤ L k; omega), hg8, hgG, (by show gFs2 pg L fa fb k (i + 1) L2 pf2; first | exact gFs2_n hne hL6 (by omega) (by omega) hi41_3 (gPt_n (by omega) (by omega) hxa hyb hnx9 hny9) hvv | exact gFs2_f hne hL6 (by omega) (by omega) hi41_3 hput hvv | (exfalso; omega)), hP, hD, hS, lv_sub hl [0, 2, 3, 4, 5, 6] rfl⟩ (by show L k - (i + 1) < L k - i; omega)
          · have c_16 : L2 k < 8 := gy_b1 c_16
            refine lv_aload_n hx hb dX4_becomeFenced_101 rfl (lv_at hl 4 rfl) ?_
            refine lv_iload hx hb dX4_becomeFenced_102 (lv_at hl 2 rfl) ?_
            refine lv_iload hx hb dX4_becomeFenced_104 (lv_at hl 1 rfl) ?_
            refine lv_bipush (v := 7) hx hb dX4_becomeFenced_106 (by decide) ?_
            refine gx_goi (wc := [(p0, .inr (4, [.int (nI nc), .ref b1, .ref b2, .ref b3])), (b3, .inl (cI, 192, .inl pg))]) (wr := [(a3, .inl (cI, 192, .inl pf2)), (b1, .inl (cI, 3, .inl (fun j => nI (L j)))), (b2, .inl (cI, 4, .inl cf)), (a2, .inl (cI, 4, .inl (va_cpy cf (fun _ => 0) 0 0 4))), (h0, .inr (4, [.int (nI nc), .ref a1, .ref a2, .ref a3])), (a1, .inl (cI, 3, .inl (fun j => nI (L2 j))))]) (va_runV (As := [.int (nI k), .int (nI i), .int 7]) (rest := []) ⟨hx, hb, hml, hown, hts⟩ (c_part l D cI cB cZ p0 b3 (.int (nI nc)) (.ref b1) (.ref b2) pg k i 7 (by omega) (by omega) (by omega) _) (cwV 3 hts gP_x_becomeFenced__c_part rfl rfl rfl (by decide +kernel) ⟨Nat.le_of_ble_eq_true rfl, Nat.le_of_ble_eq_true rfl⟩) (gx_preV (ci := 4) (q0 := 0) hK gN.nil hP hD [1, 4] rfl rfl rfl rfl) rfl rfl hl.1 rfl (lv_room (Nat.le_of_ble_eq_true rfl)) dX4_becomeFenced_108 ⟨Nat.le_of_ble_eq_true rfl, Nat.le_of_ble_eq_true rfl⟩) hP hD hS hA [1, 4] [0, 2, 3, 5, 6, 7] rfl rfl rfl (by decide) (fun r1 w1 H locs hp hP hD hS => ?_)
            obtain ⟨h9, rfl⟩ := hp
            have h9 := h9.symm
            subst h9
            refine lv_istore (lv' := [(7, .int (pg ((((k * 8) + i) * 8) + 7))), (6, .int (nI ((k * 10) + i))), (5, .int (nI i)), (4, .int (nI k)), (0, .ref h0), (1, .ref p0), (2, .int x), (3, .int y)]) hx hb dX4_becomeFenced_111 hl (by decide) rfl (fun ls hl => ?_)
            refine lv_iload hx hb dX4_becomeFenced_113 (lv_at hl 1 rfl) ?_
            refine lv_iload hx hb dX4_becomeFenced_115 (lv_at hl 0 rfl) ?_
            refine lv_iload_n hx hb dX4_becomeFenced_117 rfl (lv_at hl 6 rfl) ?_
            refine gx_goi (wc := []) (wr := [(a3, .inl (cI, 192, .inl pf2)), (b1, .inl (cI, 3, .inl (fun j => nI (L j)))), (b2, .inl (cI, 4, .inl cf)), (a2, .inl (cI, 4, .inl (va_cpy cf (fun _ => 0) 0 0 4))), (h0, .inr (4, [.int (nI nc), .ref a1, .ref a2, .ref a3])), (a1, .inl (cI, 3, .inl (fun j => nI (L2 j)))), (p0, .inr (4, [.int (nI nc), .ref b1, .ref b2, .ref b3])), (b3, .inl (cI, 192, .inl pg))]) (va_runS (As := [.int (nI ((k * 10) + i)), .int (pg ((((k * 8) + i) * 8) + 7)), .int x]) (rest := []) ⟨hx, hb, hml, hown, hts⟩ (x_within l D cI cB cZ (nI ((k * 10) + i)) (pg ((((k * 8) + i) * 8) + 7)) x _) (va_cwS 3 hts gP_x_becomeFenced__x_within rfl rfl rfl (by decide +kernel) ⟨Nat.le_of_ble_eq_true rfl, Nat.le_of_ble_eq_true rfl⟩) (gx_preS hK gN.nil hP hD [] rfl rfl) rfl rfl hl.1 rfl (lv_room (Nat.le_of_ble_eq_true rfl)) dX4_becomeFenced_118 ⟨Nat.le_of_ble_eq_true rfl, Nat.le_of_ble_eq_true rfl⟩) hP hD hS hA [] [0, 1, 2, 3, 4, 5, 6, 7] rfl rfl rfl (by decide) (fun r1 w1 H locs hp hP hD hS => ?_)
            obtain ⟨e_17, hq_18, hx118_0, h9, rfl⟩ := hp
            have h9 := h9.symm
            subst h9
            have hq_18 : e_17 ≤ 1 := hq_18
            have hx118_0 : gWi (nI ((k * 10) + i)) (pg ((((k * 8) + i) * 8) + 7)) x e_17 := hx118_0
            have hw1 := hx118_0
            refine lv_iload hx hb dX4_becomeFenced_121 (lv_at hl 1 rfl) ?_
            refine lv_iload hx hb dX4_becomeFenced_123 (lv_at hl 0 rfl) ?_
            refine lv_iload_n hx hb dX4_becomeFenced_125 rfl (lv_at hl 7 rfl) ?_
            refine gx_goi (wc := []) (wr := [(a3, .inl (cI, 192, .inl pf2)), (b1, .inl (cI, 3, .inl (fun j => nI (L j)))), (b2, .inl (cI, 4, .inl cf)), (a2, .inl (cI, 4, .inl (va_cpy cf (fun _ => 0) 0 0 4))), (h0, .inr (4, [.int (nI nc), .ref a1, .ref a2, .ref a3])), (a1, .inl (cI, 3, .inl (fun j => nI (L2 j)))), (p0, .inr (4, [.int (nI nc), .ref b1, .ref b2, .ref b3])), (b3, .inl (cI, 192, .inl pg))]) (va_runS (As := [.int (nI ((k * 10) + i)), .int (pg ((((k * 8) + i) * 8) + 7)), .int y]) (rest := [.int (nI e_17)]) ⟨hx, hb, hml, hown, hts⟩ (x_within l D cI cB cZ (nI ((k * 10) + i)) (pg ((((k * 8) + i) * 8) + 7)) y _) (va_cwS 3 hts gP_x_becomeFenced__x_within rfl rfl rfl (by decide +kernel) ⟨Nat.le_of_ble_eq_true rfl, Nat.le_of_ble_eq_true rfl⟩) (gx_preS hK gN.nil hP hD [] rfl rfl) rfl rfl hl.1 rfl (lv_room (Nat.le_of_ble_eq_true rfl)) dX4_becomeFenced_126 ⟨Nat.le_of_ble_eq_true rfl, Nat.le_of_ble_eq_true rfl⟩) hP hD hS hA [] [0, 1, 2, 3, 4, 5, 6, 7] rfl rfl rfl (by decide) (fun r1 w1 H locs hp hP hD hS => ?_)
            obtain ⟨e_19, hq_20, hx126_0, h9, rfl⟩ := hp
            have h9 := h9.symm
            subst h9
            have hq_20 : e_19 ≤ 1 := hq_20
            have hx126_0 : gWi (nI ((k * 10) + i)) (pg ((((k * 8) + i) * 8) + 7)) y e_19 := hx126_0
            have hw2 := hx126_0
            refine lv_iadd hx hb dX4_becomeFenced_129 ?_
            refine gx_top (y := nI (e_17 + e_19)) (nI_add e_17 e_19) ?_
            refine lv_istore (lv' := [(8, .int (nI (e_17 + e_19))), (7, .int (pg ((((k * 8) + i) * 8) + 7))), (6, .int (nI ((k * 10) + i))), (5, .int (nI i)), (4, .int (nI k)), (0, .ref h0), (1, .ref p0), (2, .int x), (3, .int y)]) hx hb dX4_becomeFenced_130 hl (by decide) rfl (fun ls hl => ?_)
            refine lv_aload_n hx hb dX4_becomeFenced_132 rfl (lv_at hl 5 rfl) ?_
            refine lv_aload_n hx hb dX4_becomeFenced_133 rfl (lv_at hl 6 rfl) ?_
            refine lv_iload hx hb dX4_becomeFenced_134 (lv_at hl 4 rfl) ?_
            refine lv_iload hx hb dX4_becomeFenced_136 (lv_at hl 3 rfl) ?_
            refine lv_iload hx hb dX4_becomeFenced_138 (lv_at hl 1 rfl) ?_
            refine lv_iload hx hb dX4_becomeFenced_140 (lv_at hl 0 rfl) ?_
            refine lv_iadd hx hb dX4_becomeFenced_142 ?_
            have hgG2 := gG_add (k := k) (pf' := upd (va_cpy pg (gBlank pf2 (((k * 8) + (L2 k)) * 8) (pg (((k * 8) + i) * 8 + 0))) (((k * 8) + i) * 8) (((k * 8) + (L2 k)) * 8) 8) ((((k * 8) + (L2 k)) * 8) + 7) ((pg ((((k * 8) + i) * 8) + 7)) + (nI (e_17 + e_19)))) hgG hg8 (by omega) (by omega) rfl (fun j h => by rw [pk_un (by omega), pk_cpy_out (by omega)]; exact gBlank_out h) (gIns_copy (hI k (by omega) i (by omega)) (by omega))
            have hg82 := gL8_add (k := k) hg8 (by omega)
            have hvv := gWi_v (pg := pg) (by omega) (by omega) hxa hyb hw1 hw2
            refine gx_gov (wc := [(h0, .inr (4, [.int (nI nc), .ref a1, .ref a2, .ref a3])), (a1, .inl (cI, 3, .inl (fun j => nI (L2 j)))), (a3, .inl (cI, 192, .inl pf2)), (p0, .inr (4, [.int (nI nc), .ref b1, .ref b2, .ref b3])), (b3, .inl (cI, 192, .inl pg))]) (wr := [(b1, .inl (cI, 3, .inl (fun j => nI (L j)))), (b2, .inl (cI, 4, .inl cf)), (a2, .inl (cI, 4, .inl (va_cpy cf (fun _ => 0) 0 0 4)))]) (va_runV (As := [.ref p0, .int (nI k), .int (nI i), .int ((pg ((((k * 8) + i) * 8) + 7)) + (nI (e_17 + e_19)))]) (rest := []) ⟨hx, hb, hml, hown, hts⟩ (c_copyIns l D cI cB cZ h0 a1 a3 p0 b3 (.int (nI nc)) (.ref a2) (.int (nI nc)) (.ref b1) (.ref b2) L2 pf2 pg k i (((k * 8) + i) * 8) (((k * 8) + (L2 k)) * 8) ((pg ((((k * 8) + i) * 8) + 7)) + (nI (e_17 + e_19))) (by omega) (by omega) (by omega) rfl rfl _) (cwV 4 hts gP_x_becomeFenced__c_copyIns rfl rfl rfl (by decide +kernel) ⟨Nat.le_of_ble_eq_true rfl, Nat.le_of_ble_eq_true rfl⟩) (gx_preV (ci := 4) (q0 := 0) hK gN.nil hP hD [4, 5, 0, 6, 7] rfl rfl rfl rfl) rfl rfl hl.1 rfl (lv_room (Nat.le_of_ble_eq_true rfl)) dX4_becomeFenced_143 ⟨Nat.le_of_ble_eq_true rfl, Nat.le_of_ble_eq_true rfl⟩) hP hD hS hA [4, 5, 0, 6, 7] [1, 2, 3] rfl rfl rfl (by decide) (fun w1 H locs hp hP hD hS => ?_)
            obtain ⟨rfl⟩ := hp
            have hgG := hgG2
            have hg8 := hg82
            refine lv_iinc (v := nI (i + 1)) (lv' := [(5, .int (nI (i + 1))), (8, .int (nI (e_17 + e_19))), (7, .int (pg ((((k * 8) + i) * 8) + 7))), (6, .int (nI ((k * 10) + i))), (4, .int (nI k)), (0, .ref h0), (1, .ref p0), (2, .int x), (3, .int y)]) hx hb dX4_becomeFenced_146 hl (k := 3) rfl (nI_add i 1) (by decide) rfl (fun ls hl => ?_)
            refine lv_goto (tgt := 41) hx hb dX4_becomeFenced_149 (by decide) ?_
            have hP := hP.sub (ws' := [(a3, .inl (cI, 192, .inl (upd (va_cpy pg (gBlank pf2 (((k * 8) + (L2 k)) * 8) (pg ((((k * 8) + i) * 8) + 0))) (((k * 8) + i) * 8) (((k * 8) + (L2 k)) * 8) 8) ((((k * 8) + (L2 k)) * 8) + 7) ((pg ((((k * 8) + i) * 8) + 7)) + (nI (e_17 + e_19)))))), (p0, .inr (4, [.int (nI nc), .ref b1, .ref b2, .ref b3])), (b1, .inl (cI, 3, .inl (fun j => nI (L j)))), (b2, .inl (cI, 4, .inl cf)), (b3, .inl (cI, 192, .inl pg)), (h0, .inr (4, [.int (nI nc), .ref a1, .ref a2, .ref a3])), (a1, .inl (cI, 3, .inl (fun j => nI ((updN L2 k ((L2 k) + 1)) j)))), (a2, .inl (cI, 4, .inl (va_cpy cf (fun _ => 0) 0 0 4)))]) [5, 6, 0, 1, 7, 3, 4, 2] rfl
            have hD := hD.sub (ws' := [(a3, .inl (cI, 192, .inl (upd (va_cpy pg (gBlank pf2 (((k * 8) + (L2 k)) * 8) (pg ((((k * 8) + i) * 8) + 0))) (((k * 8) + i) * 8) (((k * 8) + (L2 k)) * 8) 8) ((((k * 8) + (L2 k)) * 8) + 7) ((pg ((((k * 8) + i) * 8) + 7)) + (nI (e_17 + e_19)))))), (p0, .inr (4, [.int (nI nc), .ref b1, .ref b2, .ref b3])), (b1, .inl (cI, 3, .inl (fun j => nI (L j)))), (b2, .inl (cI, 4, .inl cf)), (b3, .inl (cI, 192, .inl pg)), (h0, .inr (4, [.int (nI nc), .ref a1, .ref a2, .ref a3])), (a1, .inl (cI, 3, .inl (fun j => nI ((updN L2 k ((L2 k) + 1)) j)))), (a2, .inl (cI, 4, .inl (va_cpy cf (fun _ => 0) 0 0 4)))]) [5, 6, 0, 1, 7, 3, 4, 2] (by decide) rfl
            exact ih41 ((i + 1), (updN L2 k ((L2 k) + 1)), (upd (va_cpy pg (gBlank pf2 (((k * 8) + (L2 k)) * 8) (pg ((((k * 8) + i) * 8) + 0))) (((k * 8) + i) * 8) (((k * 8) + (L2 k)) * 8) 8) ((((k * 8) + (L2 k)) * 8) + 7) ((pg ((((k * 8) + i) * 8) + 7)) + (nI (e_17 + e_19))))) H locs ls ⟨(by show (i + 1) ≤ L k; omega), hg8, hgG, (by show gFs2 pg L fa fb k (i + 1) (updN L2 k ((L2 k) + 1)) (upd (va_cpy pg (gBlank pf2 (((k * 8) + (L2 k)) * 8) (pg ((((k * 8) + i) * 8) + 0))) (((k * 8) + i) * 8) (((k * 8) + (L2 k)) * 8) 8) ((((k * 8) + (L2 k)) * 8) + 7) ((pg ((((k * 8) + i) * 8) + 7)) + (nI (e_17 + e_19)))); first | exact gFs2_n hne hL6 (by omega) (by omega) hi41_3 (gPt_n (by omega) (by omega) hxa hyb hnx9 hny9) hvv | exact gFs2_f hne hL6 (by omega) (by omega) hi41_3 hput hvv | (exfalso; omega)), hP, hD, hS, lv_sub hl [0, 4, 5, 6, 7, 8] rfl⟩ (by show L k - (i + 1) < L k - i; omega)
        · have hput := gPt_y (k := k) (i := i) (by omega) (by omega) hxa hyb (by first | exact Or.inl c_15 | exact Or.inr c_15)
          have ho2 := gOf_le (a := fa) (b := fb) (k := k) (i := i) hne (by omega)
          have ho3 : gOf fa fb k i = L2 k + 1 := by rw [hi41_3.2.1.1]; unfold gOf; rw [if_pos hput]
          refine lv_aload_n hx hb dX4_becomeFenced_75 rfl (lv_at hl 3 rfl) ?_
          refine lv_iload hx hb dX4_becomeFenced_76 (lv_at hl 2 rfl) ?_
          refine gx_goi (wc := [(h0, .inr (4, [.int (nI nc), .ref a1, .ref a2, .ref a3])), (a1, .inl (cI, 3, .inl (fun j => nI (L2 j))))]) (wr := [(a3, .inl (cI, 192, .inl pf2)), (p0, .inr (4, [.int (nI nc), .ref b1, .ref b2, .ref b3])), (b1, .inl (cI, 3, .inl (fun j => nI (L j)))), (b2, .inl (cI, 4, .inl cf)), (b3, .inl (cI, 192, .inl pg)), (a2, .inl (cI, 4, .inl (va_cpy cf (fun _ => 0) 0 0 4)))]) (va_runV (As := [.int (nI k)]) (rest := []) ⟨hx, hb, hml, hown, hts⟩ (c_hasRoom l D cI cB cZ h0 a1 (.int (nI nc)) (.ref a2) (.ref a3) L2 k (by omega) hg8 _) (cwV 1 hts gP_x_becomeFenced__c_hasRoom rfl rfl rfl (by decide +kernel) ⟨Nat.le_of_ble_eq_true rfl, Nat.le_of_ble_eq_true rfl⟩) (gx_preV (ci := 4) (q0 := 0) hK gN.nil hP hD [5, 6] rfl rfl rfl rfl) rfl rfl hl.1 rfl (lv_room (Nat.le_of_ble_eq_true rfl)) dX4_becomeFenced_78 ⟨Nat.le_of_ble_eq_true rfl, Nat.le_of_ble_eq_true rfl⟩) hP hD hS hA [5, 6] [0, 1, 2, 3, 4, 7] rfl rfl rfl (by decide) (fun r1 w1 H locs hp hP hD hS => ?_)
          obtain ⟨h9, rfl⟩ := hp
          have h9 := h9.symm
          subst h9
          refine lv_if_eq (tgt := 92) hx hb dX4_becomeFenced_81 (by decide) (fun c_21 => ?_) (fun c_21 => ?_)
          · have c_21 : ¬ (L2 k < 8) := gy_b0 c_21
            have hny9 := c_21
            refine lv_aload_n hx hb dX4_becomeFenced_92 rfl (lv_at hl 3 rfl) ?_
            refine lv_iload hx hb dX4_becomeFenced_93 (lv_at hl 2 rfl) ?_
            refine gx_goi (wc := [(h0, .inr (4, [.int (nI nc), .ref a1, .ref a2, .ref a3])), (a1, .inl (cI, 3, .inl (fun j => nI (L2 j))))]) (wr := [(a3, .inl (cI, 192, .inl pf2)), (p0, .inr (4, [.int (nI nc), .ref b1, .ref b2, .ref b3])), (b1, .inl (cI, 3, .inl (fun j => nI (L j)))), (b2, .inl (cI, 4, .inl cf)), (b3, .inl (cI, 192, .inl pg)), (a2, .inl (cI, 4, .inl (va_cpy cf (fun _ => 0) 0 0 4)))]) (va_runV (As := [.int (nI k)]) (rest := []) ⟨hx, hb, hml, hown, hts⟩ (c_hasRoom l D cI cB cZ h0 a1 (.int (nI nc)) (.ref a2) (.ref a3) L2 k (by omega) hg8 _) (cwV 1 hts gP_x_becomeFenced__c_hasRoom rfl rfl rfl (by decide +kernel) ⟨Nat.le_of_ble_eq_true rfl, Nat.le_of_ble_eq_true rfl⟩) (gx_preV (ci := 4) (q0 := 0) hK gN.nil hP hD [6, 7] rfl rfl rfl rfl) rfl rfl hl.1 rfl (lv_room (Nat.le_of_ble_eq_true rfl)) dX4_becomeFenced_95 ⟨Nat.le_of_ble_eq_true rfl, Nat.le_of_ble_eq_true rfl⟩) hP hD hS hA [6, 7] [0, 1, 2, 3, 4, 5] rfl rfl rfl (by decide) (fun r1 w1 H locs hp hP hD hS => ?_)
            obtain ⟨h9, rfl⟩ := hp
            have h9 := h9.symm
            subst h9
            refine lv_if_eq (tgt := 146) hx hb dX4_becomeFenced_98 (by decide) (fun c_22 => ?_) (fun c_22 => ?_)
            · have c_22 : ¬ (L2 k < 8) := gy_b0 c_22
              refine lv_iinc (v := nI (i + 1)) (lv' := [(5, .int (nI (i + 1))), (6, .int (nI ((k * 10) + i))), (4, .int (nI k)), (0, .ref h0), (1, .ref p0), (2, .int x), (3, .int y)]) hx hb dX4_becomeFenced_146 hl (k := 1) rfl (nI_add i 1) (by decide) rfl (fun ls hl => ?_)
              refine lv_goto (tgt := 41) hx hb dX4_becomeFenced_149 (by decide) ?_
              have hP := hP.sub (ws' := [(a3, .inl (cI, 192, .inl pf2)), (p0, .inr (4, [.int (nI nc), .ref b1, .ref b2, .ref b3])), (b1, .inl (cI, 3, .inl (fun j => nI (L j)))), (b2, .inl (cI, 4, .inl cf)), (b3, .inl (cI, 192, .inl pg)), (h0, .inr (4, [.int (nI nc), .ref a1, .ref a2, .ref a3])), (a1, .inl (cI, 3, .inl (fun j => nI (L2 j)))), (a2, .inl (cI, 4, .inl (va_cpy cf (fun _ => 0) 0 0 4)))]) [0, 1, 2, 3, 4, 6, 7, 5] rfl
              have hD := hD.sub (ws' := [(a3, .inl (cI, 192, .inl pf2)), (p0, .inr (4, [.int (nI nc), .ref b1, .ref b2, .ref b3])), (b1, .inl (cI, 3, .inl (fun j => nI (L j)))), (b2, .inl (cI, 4, .inl cf)), (b3, .inl (cI, 192, .inl pg)), (h0, .inr (4, [.int (nI nc), .ref a1, .ref a2, .ref a3])), (a1, .inl (cI, 3, .inl (fun j => nI (L2 j)))), (a2, .inl (cI, 4, .inl (va_cpy cf (fun _ => 0) 0 0 4)))]) [0, 1, 2, 3, 4, 6, 7, 5] (by decide) rfl
              exact ih41 ((i + 1), L2, pf2) H locs ls ⟨(by show (i + 1) ≤ L k; omega), hg8, hgG, (by show gFs2 pg L fa fb k (i + 1) L2 pf2; first | exact gFs2_n hne hL6 (by omega) (by omega) hi41_3 (gPt_n (by omega) (by omega) hxa hyb hnx9 hny9) hvv | exact gFs2_f hne hL6 (by omega) (by omega) hi41_3 hput hvv | (exfalso; omega)), hP, hD, hS, lv_sub hl [0, 2, 3, 4, 5, 6] rfl⟩ (by show L k - (i + 1) < L k - i; omega)
            · have c_22 : L2 k < 8 := gy_b1 c_22
              refine lv_aload_n hx hb dX4_becomeFenced_101 rfl (lv_at hl 4 rfl) ?_
              refine lv_iload hx hb dX4_becomeFenced_102 (lv_at hl 2 rfl) ?_
              refine lv_iload hx hb dX4_becomeFenced_104 (lv_at hl 1 rfl) ?_
              refine lv_bipush (v := 7) hx hb dX4_becomeFenced_106 (by decide) ?_
              refine gx_goi (wc := [(p0, .inr (4, [.int (nI nc), .ref b1, .ref b2, .ref b3])), (b3, .inl (cI, 192, .inl pg))]) (wr := [(a3, .inl (cI, 192, .inl pf2)), (b1, .inl (cI, 3, .inl (fun j => nI (L j)))), (b2, .inl (cI, 4, .inl cf)), (a2, .inl (cI, 4, .inl (va_cpy cf (fun _ => 0) 0 0 4))), (h0, .inr (4, [.int (nI nc), .ref a1, .ref a2, .ref a3])), (a1, .inl (cI, 3, .inl (fun j => nI (L2 j))))]) (va_runV (As := [.int (nI k), .int (nI i), .int 7]) (rest := []) ⟨hx, hb, hml, hown, hts⟩ (c_part l D cI cB cZ p0 b3 (.int (nI nc)) (.ref b1) (.ref b2) pg k i 7 (by omega) (by omega) (by omega) _) (cwV 3 hts gP_x_becomeFenced__c_part rfl rfl rfl (by decide +kernel) ⟨Nat.le_of_ble_eq_true rfl, Nat.le_of_ble_eq_true rfl⟩) (gx_preV (ci := 4) (q0 := 0) hK gN.nil hP hD [1, 4] rfl rfl rfl rfl) rfl rfl hl.1 rfl (lv_room (Nat.le_of_ble_eq_true rfl)) dX4_becomeFenced_108 ⟨Nat.le_of_ble_eq_true rfl, Nat.le_of_ble_eq_true rfl⟩) hP hD hS hA [1, 4] [0, 2, 3, 5, 6, 7] rfl rfl rfl (by decide) (fun r1 w1 H locs hp hP hD hS => ?_)
              obtain ⟨h9, rfl⟩ := hp
              have h9 := h9.symm
              subst h9
              refine lv_istore (lv' := [(7, .int (pg ((((k * 8) + i) * 8) + 7))), (6, .int (nI ((k * 10) + i))), (5, .int (nI i)), (4, .int (nI k)), (0, .ref h0), (1, .ref p0), (2, .int x), (3, .int y)]) hx hb dX4_becomeFenced_111 hl (by decide) rfl (fun ls hl => ?_)
              refine lv_iload hx hb dX4_becomeFenced_113 (lv_at hl 1 rfl) ?_
              refine lv_iload hx hb dX4_becomeFenced_115 (lv_at hl 0 rfl) ?_
              refine lv_iload_n hx hb dX4_becomeFenced_117 rfl (lv_at hl 6 rfl) ?_
              refine gx_goi (wc := []) (wr := [(a3, .inl (cI, 192, .inl pf2)), (b1, .inl (cI, 3, .inl (fun j => nI (L j)))), (b2, .inl (cI, 4, .inl cf)), (a2, .inl (cI, 4, .inl (va_cpy cf (fun _ => 0) 0 0 4))), (h0, .inr (4, [.int (nI nc), .ref a1, .ref a2, .ref a3])), (a1, .inl (cI, 3, .inl (fun j => nI (L2 j)))), (p0, .inr (4, [.int (nI nc), .ref b1, .ref b2, .ref b3])), (b3, .inl (cI, 192, .inl pg))]) (va_runS (As := [.int (nI ((k * 10) + i)), .int (pg ((((k * 8) + i) * 8) + 7)), .int x]) (rest := []) ⟨hx, hb, hml, hown, hts⟩ (x_within l D cI cB cZ (nI ((k * 10) + i)) (pg ((((k * 8) + i) * 8) + 7)) x _) (va_cwS 3 hts gP_x_becomeFenced__x_within rfl rfl rfl (by decide +kernel) ⟨Nat.le_of_ble_eq_true rfl, Nat.le_of_ble_eq_true rfl⟩) (gx_preS hK gN.nil hP hD [] rfl rfl) rfl rfl hl.1 rfl (lv_room (Nat.le_of_ble_eq_true rfl)) dX4_becomeFenced_118 ⟨Nat.le_of_ble_eq_true rfl, Nat.le_of_ble_eq_true rfl⟩) hP hD hS hA [] [0, 1, 2, 3, 4, 5, 6, 7] rfl rfl rfl (by decide) (fun r1 w1 H locs hp hP hD hS => ?_)
              obtain ⟨e_23, hq_24, hx118_0, h9, rfl⟩ := hp
              have h9 := h9.symm
              subst h9
              have hq_24 : e_23 ≤ 1 := hq_24
              have hx118_0 : gWi (nI ((k * 10) + i)) (pg ((((k * 8) + i) * 8) + 7)) x e_23 := hx118_0
              have hw1 := hx118_0
              refine lv_iload hx hb dX4_becomeFenced_121 (lv_at hl 1 rfl) ?_
              refine lv_iload hx hb dX4_becomeFenced_123 (lv_at hl 0 rfl) ?_
              refine lv_iload_n hx hb dX4_becomeFenced_125 rfl (lv_at hl 7 rfl) ?_
              refine gx_goi (wc := []) (wr := [(a3, .inl (cI, 192, .inl pf2)), (b1, .inl (cI, 3, .inl (fun j => nI (L j)))), (b2, .inl (cI, 4, .inl cf)), (a2, .inl (cI, 4, .inl (va_cpy cf (fun _ => 0) 0 0 4))), (h0, .inr (4, [.int (nI nc), .ref a1, .ref a2, .ref a3])), (a1, .inl (cI, 3, .inl (fun j => nI (L2 j)))), (p0, .inr (4, [.int (nI nc), .ref b1, .ref b2, .ref b3])), (b3, .inl (cI, 192, .inl pg))]) (va_runS (As := [.int (nI ((k * 10) + i)), .int (pg ((((k * 8) + i) * 8) + 7)), .int y]) (rest := [.int (nI e_23)]) ⟨hx, hb, hml, hown, hts⟩ (x_within l D cI cB cZ (nI ((k * 10) + i)) (pg ((((k * 8) + i) * 8) + 7)) y _) (va_cwS 3 hts gP_x_becomeFenced__x_within rfl rfl rfl (by decide +kernel) ⟨Nat.le_of_ble_eq_true rfl, Nat.le_of_ble_eq_true rfl⟩) (gx_preS hK gN.nil hP hD [] rfl rfl) rfl rfl hl.1 rfl (lv_room (Nat.le_of_ble_eq_true rfl)) dX4_becomeFenced_126 ⟨Nat.le_of_ble_eq_true rfl, Nat.le_of_ble_eq_true rfl⟩) hP hD hS hA [] [0, 1, 2, 3, 4, 5, 6, 7] rfl rfl rfl (by decide) (fun r1 w1 H locs hp hP hD hS => ?_)
              obtain ⟨e_25, hq_26, hx126_0, h9, rfl⟩ := hp
              have h9 := h9.symm
              subst h9
              have hq_26 : e_25 ≤ 1 := hq_26
              have hx126_0 : gWi (nI ((k * 10) + i)) (pg ((((k * 8) + i) * 8) + 7)) y e_25 := hx126_0
              have hw2 := hx126_0
              refine lv_iadd hx hb dX4_becomeFenced_129 ?_
              refine gx_top (y := nI (e_23 + e_25)) (nI_add e_23 e_25) ?_
              refine lv_istore (lv' := [(8, .int (nI (e_23 + e_25))), (7, .int (pg ((((k * 8) + i) * 8) + 7))), (6, .int (nI ((k * 10) + i))), (5, .int (nI i)), (4, .int (nI k)), (0, .ref h0), (1, .ref p0), (2, .int x), (3, .int y)]) hx hb dX4_becomeFenced_130 hl (by decide) rfl (fun ls hl => ?_)
              refine lv_aload_n hx hb dX4_becomeFenced_132 rfl (lv_at hl 5 rfl) ?_
              refine lv_aload_n hx hb dX4_becomeFenced_133 rfl (lv_at hl 6 rfl) ?_
              refine lv_iload hx hb dX4_becomeFenced_134 (lv_at hl 4 rfl) ?_
              refine lv_iload hx hb dX4_becomeFenced_136 (lv_at hl 3 rfl) ?_
              refine lv_iload hx hb dX4_becomeFenced_138 (lv_at hl 1 rfl) ?_
              refine lv_iload hx hb dX4_becomeFenced_140 (lv_at hl 0 rfl) ?_
              refine lv_iadd hx hb dX4_becomeFenced_142 ?_
              have hgG2 := gG_add (k := k) (pf' := upd (va_cpy pg (gBlank pf2 (((k * 8) + (L2 k)) * 8) (pg (((k * 8) + i) * 8 + 0))) (((k * 8) + i) * 8) (((k * 8) + (L2 k)) * 8) 8) ((((k * 8) + (L2 k)) * 8) + 7) ((pg ((((k * 8) + i) * 8) + 7)) + (nI (e_23 + e_25)))) hgG hg8 (by omega) (by omega) rfl (fun j h => by rw [pk_un (by omega), pk_cpy_out (by omega)]; exact gBlank_out h) (gIns_copy (hI k (by omega) i (by omega)) (by omega))
              have hg82 := gL8_add (k := k) hg8 (by omega)
              have hvv := gWi_v (pg := pg) (by omega) (by omega) hxa hyb hw1 hw2
              refine gx_gov (wc := [(h0, .inr (4, [.int (nI nc), .ref a1, .ref a2, .ref a3])), (a1, .inl (cI, 3, .inl (fun j => nI (L2 j)))), (a3, .inl (cI, 192, .inl pf2)), (p0, .inr (4, [.int (nI nc), .ref b1, .ref b2, .ref b3])), (b3, .inl (cI, 192, .inl pg))]) (wr := [(b1, .inl (cI, 3, .inl (fun j => nI (L j)))), (b2, .inl (cI, 4, .inl cf)), (a2, .inl (cI, 4, .inl (va_cpy cf (fun _ => 0) 0 0 4)))]) (va_runV (As := [.ref p0, .int (nI k), .int (nI i), .int ((pg ((((k * 8) + i) * 8) + 7)) + (nI (e_23 + e_25)))]) (rest := []) ⟨hx, hb, hml, hown, hts⟩ (c_copyIns l D cI cB cZ h0 a1 a3 p0 b3 (.int (nI nc)) (.ref a2) (.int (nI nc)) (.ref b1) (.ref b2) L2 pf2 pg k i (((k * 8) + i) * 8) (((k * 8) + (L2 k)) * 8) ((pg ((((k * 8) + i) * 8) + 7)) + (nI (e_23 + e_25))) (by omega) (by omega) (by omega) rfl rfl _) (cwV 4 hts gP_x_becomeFenced__c_copyIns rfl rfl rfl (by decide +kernel) ⟨Nat.le_of_ble_eq_true rfl, Nat.le_of_ble_eq_true rfl⟩) (gx_preV (ci := 4) (q0 := 0) hK gN.nil hP hD [4, 5, 0, 6, 7] rfl rfl rfl rfl) rfl rfl hl.1 rfl (lv_room (Nat.le_of_ble_eq_true rfl)) dX4_becomeFenced_143 ⟨Nat.le_of_ble_eq_true rfl, Nat.le_of_ble_eq_true rfl⟩) hP hD hS hA [4, 5, 0, 6, 7] [1, 2, 3] rfl rfl rfl (by decide) (fun w1 H locs hp hP hD hS => ?_)
              obtain ⟨rfl⟩ := hp
              have hgG := hgG2
              have hg8 := hg82
              refine lv_iinc (v := nI (i + 1)) (lv' := [(5, .int (nI (i + 1))), (8, .int (nI (e_23 + e_25))), (7, .int (pg ((((k * 8) + i) * 8) + 7))), (6, .int (nI ((k * 10) + i))), (4, .int (nI k)), (0, .ref h0), (1, .ref p0), (2, .int x), (3, .int y)]) hx hb dX4_becomeFenced_146 hl (k := 3) rfl (nI_add i 1) (by decide) rfl (fun ls hl => ?_)
              refine lv_goto (tgt := 41) hx hb dX4_becomeFenced_149 (by decide) ?_
              have hP := hP.sub (ws' := [(a3, .inl (cI, 192, .inl (upd (va_cpy pg (gBlank pf2 (((k * 8) + (L2 k)) * 8) (pg ((((k * 8) + i) * 8) + 0))) (((k * 8) + i) * 8) (((k * 8) + (L2 k)) * 8) 8) ((((k * 8) + (L2 k)) * 8) + 7) ((pg ((((k * 8) + i) * 8) + 7)) + (nI (e_23 + e_25)))))), (p0, .inr (4, [.int (nI nc), .ref b1, .ref b2, .ref b3])), (b1, .inl (cI, 3, .inl (fun j => nI (L j)))), (b2, .inl (cI, 4, .inl cf)), (b3, .inl (cI, 192, .inl pg)), (h0, .inr (4, [.int (nI nc), .ref a1, .ref a2, .ref a3])), (a1, .inl (cI, 3, .inl (fun j => nI ((updN L2 k ((L2 k) + 1)) j)))), (a2, .inl (cI, 4, .inl (va_cpy cf (fun _ => 0) 0 0 4)))]) [5, 6, 0, 1, 7, 3, 4, 2] rfl
              have hD := hD.sub (ws' := [(a3, .inl (cI, 192, .inl (upd (va_cpy pg (gBlank pf2 (((k * 8) + (L2 k)) * 8) (pg ((((k * 8) + i) * 8) + 0))) (((k * 8) + i) * 8) (((k * 8) + (L2 k)) * 8) 8) ((((k * 8) + (L2 k)) * 8) + 7) ((pg ((((k * 8) + i) * 8) + 7)) + (nI (e_23 + e_25)))))), (p0, .inr (4, [.int (nI nc), .ref b1, .ref b2, .ref b3])), (b1, .inl (cI, 3, .inl (fun j => nI (L j)))), (b2, .inl (cI, 4, .inl cf)), (b3, .inl (cI, 192, .inl pg)), (h0, .inr (4, [.int (nI nc), .ref a1, .ref a2, .ref a3])), (a1, .inl (cI, 3, .inl (fun j => nI ((updN L2 k ((L2 k) + 1)) j)))), (a2, .inl (cI, 4, .inl (va_cpy cf (fun _ => 0) 0 0 4)))]) [5, 6, 0, 1, 7, 3, 4, 2] (by decide) rfl
              exact ih41 ((i + 1), (updN L2 k ((L2 k) + 1)), (upd (va_cpy pg (gBlank pf2 (((k * 8) + (L2 k)) * 8) (pg ((((k * 8) + i) * 8) + 0))) (((k * 8) + i) * 8) (((k * 8) + (L2 k)) * 8) 8) ((((k * 8) + (L2 k)) * 8) + 7) ((pg ((((k * 8) + i) * 8) + 7)) + (nI (e_23 + e_25))))) H locs ls ⟨(by show (i + 1) ≤ L k; omega), hg8, hgG, (by show gFs2 pg L fa fb k (i + 1) (updN L2 k ((L2 k) + 1)) (upd (va_cpy pg (gBlank pf2 (((k * 8) + (L2 k)) * 8) (pg ((((k * 8) + i) * 8) + 0))) (((k * 8) + i) * 8) (((k * 8) + (L2 k)) * 8) 8) ((((k * 8) + (L2 k)) * 8) + 7) ((pg ((((k * 8) + i) * 8) + 7)) + (nI (e_23 + e_25)))); first | exact gFs2_n hne hL6 (by omega) (by omega) hi41_3 (gPt_n (by omega) (by omega) hxa hyb hnx9 hny9) hvv | exact gFs2_f hne hL6 (by omega) (by omega) hi41_3 hput hvv | (exfalso; omega)), hP, hD, hS, lv_sub hl [0, 4, 5, 6, 7, 8] rfl⟩ (by show L k - (i + 1) < L k - i; omega)
          · have c_21 : L2 k < 8 := gy_b1 c_21
            refine lv_aload_n hx hb dX4_becomeFenced_84 rfl (lv_at hl 3 rfl) ?_
            refine lv_iload hx hb dX4_becomeFenced_85 (lv_at hl 2 rfl) ?_
            refine lv_iconst (v := 4) hx hb dX4_becomeFenced_87 (by decide) ?_
            refine gx_goi (wc := [(h0, .inr (4, [.int (nI nc), .ref a1, .ref a2, .ref a3])), (a1, .inl (cI, 3, .inl (fun j => nI (L2 j)))), (a3, .inl (cI, 192, .inl pf2))]) (wr := [(p0, .inr (4, [.int (nI nc), .ref b1, .ref b2, .ref b3])), (b1, .inl (cI, 3, .inl (fun j => nI (L j)))), (b2, .inl (cI, 4, .inl cf)), (b3, .inl (cI, 192, .inl pg)), (a2, .inl (cI, 4, .inl (va_cpy cf (fun _ => 0) 0 0 4)))]) (va_runV (As := [.int (nI k), .int 4]) (rest := []) ⟨hx, hb, hml, hown, hts⟩ (c_addBlank l D cI cB cZ h0 a1 a3 (.int (nI nc)) (.ref a2) L2 pf2 k (((k * 8) + (L2 k)) * 8) 4 (by omega) (by omega) rfl _) (cwV 2 hts gP_x_becomeFenced__c_addBlank rfl rfl rfl (by decide +kernel) ⟨Nat.le_of_ble_eq_true rfl, Nat.le_of_ble_eq_true rfl⟩) (gx_preV (ci := 4) (q0 := 0) hK gN.nil hP hD [6, 7, 0] rfl rfl rfl rfl) rfl rfl hl.1 rfl (lv_room (Nat.le_of_ble_eq_true rfl)) dX4_becomeFenced_88 ⟨Nat.le_of_ble_eq_true rfl, Nat.le_of_ble_eq_true rfl⟩) hP hD hS hA [6, 7, 0] [1, 2, 3, 4, 5] rfl rfl rfl (by decide) (fun r1 w1 H locs hp hP hD hS => ?_)
            obtain ⟨h9, rfl⟩ := hp
            have h9 := h9.symm
            subst h9
            have hgG : gG (updN L2 k ((L2 k) + 1)) (gBlank pf2 (((k * 8) + (L2 k)) * 8) 4) 7 := gG_add hgG hg8 (by omega) (by omega) rfl (fun j h => gBlank_out h) gIns_blank
            have hg8 : gL8 (updN L2 k ((L2 k) + 1)) := gL8_add hg8 (by omega)
            have hus9 : (updN L2 k ((L2 k) + 1)) k = L2 k + 1 := updN_s
            refine lv_pop hx hb dX4_becomeFenced_91 rfl ?_
            have hny9 := c_21
            refine lv_aload_n hx hb dX4_becomeFenced_92 rfl (lv_at hl 3 rfl) ?_
            refine lv_iload hx hb dX4_becomeFenced_93 (lv_at hl 2 rfl) ?_
            refine gx_goi (wc := [(h0, .inr (4, [.int (nI nc), .ref a1, .ref a2, .ref a3])), (a1, .inl (cI, 3, .inl (fun j => nI ((updN L2 k ((L2 k) + 1)) j))))]) (wr := [(p0, .inr (4, [.int (nI nc), .ref b1, .ref b2, .ref b3])), (b1, .inl (cI, 3, .inl (fun j => nI (L j)))), (b2, .inl (cI, 4, .inl cf)), (b3, .inl (cI, 192, .inl pg)), (a2, .inl (cI, 4, .inl (va_cpy cf (fun _ => 0) 0 0 4))), (a3, .inl (cI, 192, .inl (gBlank pf2 (((k * 8) + (L2 k)) * 8) 4)))]) (va_runV (As := [.int (nI k)]) (rest := []) ⟨hx, hb, hml, hown, hts⟩ (c_hasRoom l D cI cB cZ h0 a1 (.int (nI nc)) (.ref a2) (.ref a3) (updN L2 k ((L2 k) + 1)) k (by omega) hg8 _) (cwV 1 hts gP_x_becomeFenced__c_hasRoom rfl rfl rfl (by decide +kernel) ⟨Nat.le_of_ble_eq_true rfl, Nat.le_of_ble_eq_true rfl⟩) (gx_preV (ci := 4) (q0 := 0) hK gN.nil hP hD [5, 6] rfl rfl rfl rfl) rfl rfl hl.1 rfl (lv_room (Nat.le_of_ble_eq_true rfl)) dX4_becomeFenced_95 ⟨Nat.le_of_ble_eq_true rfl, Nat.le_of_ble_eq_true rfl⟩) hP hD hS hA [5, 6] [0, 1, 2, 3, 4, 7] rfl rfl rfl (by decide) (fun r1 w1 H locs hp hP hD hS => ?_)
            obtain ⟨h9, rfl⟩ := hp
            have h9 := h9.symm
            subst h9
            refine lv_if_eq (tgt := 146) hx hb dX4_becomeFenced_98 (by decide) (fun c_27 => ?_) (fun c_27 => ?_)
            · have c_27 : ¬ ((updN L2 k ((L2 k) + 1)) k < 8) := gy_b0 c_27
              refine lv_iinc (v := nI (i + 1)) (lv' := [(5, .int (nI (i + 1))), (6, .int (nI ((k * 10) + i))), (4, .int (nI k)), (0, .ref h0), (1, .ref p0), (2, .int x), (3, .int y)]) hx hb dX4_becomeFenced_146 hl (k := 1) rfl (nI_add i 1) (by decide) rfl (fun ls hl => ?_)
              refine lv_goto (tgt := 41) hx hb dX4_becomeFenced_149 (by decide) ?_
              have hP := hP.sub (ws' := [(a3, .inl (cI, 192, .inl (gBlank pf2 (((k * 8) + (L2 k)) * 8) 4))), (p0, .inr (4, [.int (nI nc), .ref b1, .ref b2, .ref b3])), (b1, .inl (cI, 3, .inl (fun j => nI (L j)))), (b2, .inl (cI, 4, .inl cf)), (b3, .inl (cI, 192, .inl pg)), (h0, .inr (4, [.int (nI nc), .ref a1, .ref a2, .ref a3])), (a1, .inl (cI, 3, .inl (fun j => nI ((updN L2 k ((L2 k) + 1)) j)))), (a2, .inl (cI, 4, .inl (va_cpy cf (fun _ => 0) 0 0 4)))]) [5, 0, 1, 2, 3, 6, 7, 4] rfl
              have hD := hD.sub (ws' := [(a3, .inl (cI, 192, .inl (gBlank pf2 (((k * 8) + (L2 k)) * 8) 4))), (p0, .inr (4, [.int (nI nc), .ref b1, .ref b2, .ref b3])), (b1, .inl (cI, 3, .inl (fun j => nI (L j)))), (b2, .inl (cI, 4, .inl cf)), (b3, .inl (cI, 192, .inl pg)), (h0, .inr (4, [.int (nI nc), .ref a1, .ref a2, .ref a3])), (a1, .inl (cI, 3, .inl (fun j => nI ((updN L2 k ((L2 k) + 1)) j)))), (a2, .inl (cI, 4, .inl (va_cpy cf (fun _ => 0) 0 0 4)))]) [5, 0, 1, 2, 3, 6, 7, 4] (by decide) rfl
              exact ih41 ((i + 1), (updN L2 k ((L2 k) + 1)), (gBlank pf2 (((k * 8) + (L2 k)) * 8) 4)) H locs ls ⟨(by show (i + 1) ≤ L k; omega), hg8, hgG, (by show gFs2 pg L fa fb k (i + 1) (updN L2 k ((L2 k) + 1)) (gBlank pf2 (((k * 8) + (L2 k)) * 8) 4); first | exact gFs2_n hne hL6 (by omega) (by omega) hi41_3 (gPt_n (by omega) (by omega) hxa hyb hnx9 hny9) hvv | exact gFs2_f hne hL6 (by omega) (by omega) hi41_3 hput hvv | (exfalso; omega)), hP, hD, hS, lv_sub hl [0, 2, 3, 4, 5, 6] rfl⟩ (by show L k - (i + 1) < L k - i; omega)
            · have c_27 : (updN L2 k ((L2 k) + 1)) k < 8 := gy_b1 c_27
              refine lv_aload_n hx hb dX4_becomeFenced_101 rfl (lv_at hl 4 rfl) ?_
              refine lv_iload hx hb dX4_becomeFenced_102 (lv_at hl 2 rfl) ?_
              refine lv_iload hx hb dX4_becomeFenced_104 (lv_at hl 1 rfl) ?_
              refine lv_bipush (v := 7) hx hb dX4_becomeFenced_106 (by decide) ?_
              refine gx_goi (wc := [(p0, .inr (4, [.int (nI nc), .ref b1, .ref b2, .ref b3])), (b3, .inl (cI, 192, .inl pg))]) (wr := [(b1, .inl (cI, 3, .inl (fun j => nI (L j)))), (b2, .inl (cI, 4, .inl cf)), (a2, .inl (cI, 4, .inl (va_cpy cf (fun _ => 0) 0 0 4))), (a3, .inl (cI, 192, .inl (gBlank pf2 (((k * 8) + (L2 k)) * 8) 4))), (h0, .inr (4, [.int (nI nc), .ref a1, .ref a2, .ref a3])), (a1, .inl (cI, 3, .inl (fun j => nI ((updN L2 k ((L2 k) + 1)) j))))]) (va_runV (As := [.int (nI k), .int (nI i), .int 7]) (rest := []) ⟨hx, hb, hml, hown, hts⟩ (c_part l D cI cB cZ p0 b3 (.int (nI nc)) (.ref b1) (.ref b2) pg k i 7 (by omega) (by omega) (by omega) _) (cwV 3 hts gP_x_becomeFenced__c_part rfl rfl rfl (by decide +kernel) ⟨Nat.le_of_ble_eq_true rfl, Nat.le_of_ble_eq_true rfl⟩) (gx_preV (ci := 4) (q0 := 0) hK gN.nil hP hD [0, 3] rfl rfl rfl rfl) rfl rfl hl.1 rfl (lv_room (Nat.le_of_ble_eq_true rfl)) dX4_becomeFenced_108 ⟨Nat.le_of_ble_eq_true rfl, Nat.le_of_ble_eq_true rfl⟩) hP hD hS hA [0, 3] [1, 2, 4, 5, 6, 7] rfl rfl rfl (by decide) (fun r1 w1 H locs hp hP hD hS => ?_)
              obtain ⟨h9, rfl⟩ := hp
              have h9 := h9.symm
              subst h9
              refine lv_istore (lv' := [(7, .int (pg ((((k * 8) + i) * 8) + 7))), (6, .int (nI ((k * 10) + i))), (5, .int (nI i)), (4, .int (nI k)), (0, .ref h0), (1, .ref p0), (2, .int x), (3, .int y)]) hx hb dX4_becomeFenced_111 hl (by decide) rfl (fun ls hl => ?_)
              refine lv_iload hx hb dX4_becomeFenced_113 (lv_at hl 1 rfl) ?_
              refine lv_iload hx hb dX4_becomeFenced_115 (lv_at hl 0 rfl) ?_
              refine lv_iload_n hx hb dX4_becomeFenced_117 rfl (lv_at hl 6 rfl) ?_
              refine gx_goi (wc := []) (wr := [(b1, .inl (cI, 3, .inl (fun j => nI (L j)))), (b2, .inl (cI, 4, .inl cf)), (a2, .inl (cI, 4, .inl (va_cpy cf (fun _ => 0) 0 0 4))), (a3, .inl (cI, 192, .inl (gBlank pf2 (((k * 8) + (L2 k)) * 8) 4))), (h0, .inr (4, [.int (nI nc), .ref a1, .ref a2, .ref a3])), (a1, .inl (cI, 3, .inl (fun j => nI ((updN L2 k ((L2 k) + 1)) j)))), (p0, .inr (4, [.int (nI nc), .ref b1, .ref b2, .ref b3])), (b3, .inl (cI, 192, .inl pg))]) (va_runS (As := [.int (nI ((k * 10) + i)), .int (pg ((((k * 8) + i) * 8) + 7)), .int x]) (rest := []) ⟨hx, hb, hml, hown, hts⟩ (x_within l D cI cB cZ (nI ((k * 10) + i)) (pg ((((k * 8) + i) * 8) + 7)) x _) (va_cwS 3 hts gP_x_becomeFenced__x_within rfl rfl rfl (by decide +kernel) ⟨Nat.le_of_ble_eq_true rfl, Nat.le_of_ble_eq_true rfl⟩) (gx_preS hK gN.nil hP hD [] rfl rfl) rfl rfl hl.1 rfl (lv_room (Nat.le_of_ble_eq_true rfl)) dX4_becomeFenced_118 ⟨Nat.le_of_ble_eq_true rfl, Nat.le_of_ble_eq_true rfl⟩) hP hD hS hA [] [0, 1, 2, 3, 4, 5, 6, 7] rfl rfl rfl (by decide) (fun r1 w1 H locs hp hP hD hS => ?_)
              obtain ⟨e_28, hq_29, hx118_0, h9, rfl⟩ := hp
              have h9 := h9.symm
              subst h9
              have hq_29 : e_28 ≤ 1 := hq_29
              have hx118_0 : gWi (nI ((k * 10) + i)) (pg ((((k * 8) + i) * 8) + 7)) x e_28 := hx118_0
              have hw1 := hx118_0
              refine lv_iload hx hb dX4_becomeFenced_121 (lv_at hl 1 rfl) ?_
              refine lv_iload hx hb dX4_becomeFenced_123 (lv_at hl 0 rfl) ?_
              refine lv_iload_n hx hb dX4_becomeFenced_125 rfl (lv_at hl 7 rfl) ?_
              refine gx_goi (wc := []) (wr := [(b1, .inl (cI, 3, .inl (fun j => nI (L j)))), (b2, .inl (cI, 4, .inl cf)), (a2, .inl (cI, 4, .inl (va_cpy cf (fun _ => 0) 0 0 4))), (a3, .inl (cI, 192, .inl (gBlank pf2 (((k * 8) + (L2 k)) * 8) 4))), (h0, .inr (4, [.int (nI nc), .ref a1, .ref a2, .ref a3])), (a1, .inl (cI, 3, .inl (fun j => nI ((updN L2 k ((L2 k) + 1)) j)))), (p0, .inr (4, [.int (nI nc), .ref b1, .ref b2, .ref b3])), (b3, .inl (cI, 192, .inl pg))]) (va_runS (As := [.int (nI ((k * 10) + i)), .int (pg ((((k * 8) + i) * 8) + 7)), .int y]) (rest := [.int (nI e_28)]) ⟨hx, hb, hml, hown, hts⟩ (x_within l D cI cB cZ (nI ((k * 10) + i)) (pg ((((k * 8) + i) * 8) + 7)) y _) (va_cwS 3 hts gP_x_becomeFenced__x_within rfl rfl rfl (by decide +kernel) ⟨Nat.le_of_ble_eq_true rfl, Nat.le_of_ble_eq_true rfl⟩) (gx_preS hK gN.nil hP hD [] rfl rfl) rfl rfl hl.1 rfl (lv_room (Nat.le_of_ble_eq_true rfl)) dX4_becomeFenced_126 ⟨Nat.le_of_ble_eq_true rfl, Nat.le_of_ble_eq_true rfl⟩) hP hD hS hA [] [0, 1, 2, 3, 4, 5, 6, 7] rfl rfl rfl (by decide) (fun r1 w1 H locs hp hP hD hS => ?_)
              obtain ⟨e_30, hq_31, hx126_0, h9, rfl⟩ := hp
              have h9 := h9.symm
              subst h9
              have hq_31 : e_30 ≤ 1 := hq_31
              have hx126_0 : gWi (nI ((k * 10) + i)) (pg ((((k * 8) + i) * 8) + 7)) y e_30 := hx126_0
              have hw2 := hx126_0
              refine lv_iadd hx hb dX4_becomeFenced_129 ?_
              refine gx_top (y := nI (e_28 + e_30)) (nI_add e_28 e_30) ?_
              refine lv_istore (lv' := [(8, .int (nI (e_28 + e_30))), (7, .int (pg ((((k * 8) + i) * 8) + 7))), (6, .int (nI ((k * 10) + i))), (5, .int (nI i)), (4, .int (nI k)), (0, .ref h0), (1, .ref p0), (2, .int x), (3, .int y)]) hx hb dX4_becomeFenced_130 hl (by decide) rfl (fun ls hl => ?_)
              refine lv_aload_n hx hb dX4_becomeFenced_132 rfl (lv_at hl 5 rfl) ?_
              refine lv_aload_n hx hb dX4_becomeFenced_133 rfl (lv_at hl 6 rfl) ?_
              refine lv_iload hx hb dX4_becomeFenced_134 (lv_at hl 4 rfl) ?_
              refine lv_iload hx hb dX4_becomeFenced_136 (lv_at hl 3 rfl) ?_
              refine lv_iload hx hb dX4_becomeFenced_138 (lv_at hl 1 rfl) ?_
              refine lv_iload hx hb dX4_becomeFenced_140 (lv_at hl 0 rfl) ?_
              refine lv_iadd hx hb dX4_becomeFenced_142 ?_
              have hgG2 := gG_add (k := k) (pf' := upd (va_cpy pg (gBlank (gBlank pf2 (((k * 8) + (L2 k)) * 8) 4) (((k * 8) + ((updN L2 k ((L2 k) + 1)) k)) * 8) (pg (((k * 8) + i) * 8 + 0))) (((k * 8) + i) * 8) (((k * 8) + ((updN L2 k ((L2 k) + 1)) k)) * 8) 8) ((((k * 8) + ((updN L2 k ((L2 k) + 1)) k)) * 8) + 7) ((pg ((((k * 8) + i) * 8) + 7)) + (nI (e_28 + e_30)))) hgG hg8 (by omega) (by omega) rfl (fun j h => by rw [pk_un (by omega), pk_cpy_out (by omega)]; exact gBlank_out h) (gIns_copy (hI k (by omega) i (by omega)) (by omega))
              have hg82 := gL8_add (k := k) hg8 (by omega)
              have hvv := gWi_v (pg := pg) (by omega) (by omega) hxa hyb hw1 hw2
              refine gx_gov (wc := [(h0, .inr (4, [.int (nI nc), .ref a1, .ref a2, .ref a3])), (a1, .inl (cI, 3, .inl (fun j => nI ((updN L2 k ((L2 k) + 1)) j)))), (a3, .inl (cI, 192, .inl (gBlank pf2 (((k * 8) + (L2 k)) * 8) 4))), (p0, .inr (4, [.int (nI nc), .ref b1, .ref b2, .ref b3])), (b3, .inl (cI, 192, .inl pg))]) (wr := [(b1, .inl (cI, 3, .inl (fun j => nI (L j)))), (b2, .inl (cI, 4, .inl cf)), (a2, .inl (cI, 4, .inl (va_cpy cf (fun _ => 0) 0 0 4)))]) (va_runV (As := [.ref p0, .int (nI k), .int (nI i), .int ((pg ((((k * 8) + i) * 8) + 7)) + (nI (e_28 + e_30)))]) (rest := []) ⟨hx, hb, hml, hown, hts⟩ (c_copyIns l D cI cB cZ h0 a1 a3 p0 b3 (.int (nI nc)) (.ref a2) (.int (nI nc)) (.ref b1) (.ref b2) (updN L2 k ((L2 k) + 1)) (gBlank pf2 (((k * 8) + (L2 k)) * 8) 4) pg k i (((k * 8) + i) * 8) (((k * 8) + ((updN L2 k ((L2 k) + 1)) k)) * 8) ((pg ((((k * 8) + i) * 8) + 7)) + (nI (e_28 + e_30))) (by omega) (by omega) (by omega) rfl rfl _) (cwV 4 hts gP_x_becomeFenced__c_copyIns rfl rfl rfl (by decide +kernel) ⟨Nat.le_of_ble_eq_true rfl, Nat.le_of_ble_eq_true rfl⟩) (gx_preV (ci := 4) (q0 := 0) hK gN.nil hP hD [4, 5, 3, 6, 7] rfl rfl rfl rfl) rfl rfl hl.1 rfl (lv_room (Nat.le_of_ble_eq_true rfl)) dX4_becomeFenced_143 ⟨Nat.le_of_ble_eq_true rfl, Nat.le_of_ble_eq_true rfl⟩) hP hD hS hA [4, 5, 3, 6, 7] [0, 1, 2] rfl rfl rfl (by decide) (fun w1 H locs hp hP hD hS => ?_)
              obtain ⟨rfl⟩ := hp
              have hgG := hgG2
              have hg8 := hg82
              refine lv_iinc (v := nI (i + 1)) (lv' := [(5, .int (nI (i + 1))), (8, .int (nI (e_28 + e_30))), (7, .int (pg ((((k * 8) + i) * 8) + 7))), (6, .int (nI ((k * 10) + i))), (4, .int (nI k)), (0, .ref h0), (1, .ref p0), (2, .int x), (3, .int y)]) hx hb dX4_becomeFenced_146 hl (k := 3) rfl (nI_add i 1) (by decide) rfl (fun ls hl => ?_)
              refine lv_goto (tgt := 41) hx hb dX4_becomeFenced_149 (by decide) ?_
              have hP := hP.sub (ws' := [(a3, .inl (cI, 192, .inl (upd (va_cpy pg (gBlank (gBlank pf2 (((k * 8) + (L2 k)) * 8) 4) (((k * 8) + ((updN L2 k ((L2 k) + 1)) k)) * 8) (pg ((((k * 8) + i) * 8) + 0))) (((k * 8) + i) * 8) (((k * 8) + ((updN L2 k ((L2 k) + 1)) k)) * 8) 8) ((((k * 8) + ((updN L2 k ((L2 k) + 1)) k)) * 8) + 7) ((pg ((((k * 8) + i) * 8) + 7)) + (nI (e_28 + e_30)))))), (p0, .inr (4, [.int (nI nc), .ref b1, .ref b2, .ref b3])), (b1, .inl (cI, 3, .inl (fun j => nI (L j)))), (b2, .inl (cI, 4, .inl cf)), (b3, .inl (cI, 192, .inl pg)), (h0, .inr (4, [.int (nI nc), .ref a1, .ref a2, .ref a3])), (a1, .inl (cI, 3, .inl (fun j => nI ((updN (updN L2 k ((L2 k) + 1)) k (((updN L2 k ((L2 k) + 1)) k) + 1)) j)))), (a2, .inl (cI, 4, .inl (va_cpy cf (fun _ => 0) 0 0 4)))]) [5, 6, 0, 1, 7, 3, 4, 2] rfl
              have hD := hD.sub (ws' := [(a3, .inl (cI, 192, .inl (upd (va_cpy pg (gBlank (gBlank pf2 (((k * 8) + (L2 k)) * 8) 4) (((k * 8) + ((updN L2 k ((L2 k) + 1)) k)) * 8) (pg ((((k * 8) + i) * 8) + 0))) (((k * 8) + i) * 8) (((k * 8) + ((updN L2 k ((L2 k) + 1)) k)) * 8) 8) ((((k * 8) + ((updN L2 k ((L2 k) + 1)) k)) * 8) + 7) ((pg ((((k * 8) + i) * 8) + 7)) + (nI (e_28 + e_30)))))), (p0, .inr (4, [.int (nI nc), .ref b1, .ref b2, .ref b3])), (b1, .inl (cI, 3, .inl (fun j => nI (L j)))), (b2, .inl (cI, 4, .inl cf)), (b3, .inl (cI, 192, .inl pg)), (h0, .inr (4, [.int (nI nc), .ref a1, .ref a2, .ref a3])), (a1, .inl (cI, 3, .inl (fun j => nI ((updN (updN L2 k ((L2 k) + 1)) k (((updN L2 k ((L2 k) + 1)) k) + 1)) j)))), (a2, .inl (cI, 4, .inl (va_cpy cf (fun _ => 0) 0 0 4)))]) [5, 6, 0, 1, 7, 3, 4, 2] (by decide) rfl
              exact ih41 ((i + 1), (updN (updN L2 k ((L2 k) + 1)) k (((updN L2 k ((L2 k) + 1)) k) + 1)), (upd (va_cpy pg (gBlank (gBlank pf2 (((k * 8) + (L2 k)) * 8) 4) (((k * 8) + ((updN L2 k ((L2 k) + 1)) k)) * 8) (pg ((((k * 8) + i) * 8) + 0))) (((k * 8) + i) * 8) (((k * 8) + ((updN L2 k ((L2 k) + 1)) k)) * 8) 8) ((((k * 8) + ((updN L2 k ((L2 k) + 1)) k)) * 8) + 7) ((pg ((((k * 8) + i) * 8) + 7)) + (nI (e_28 + e_30))))) H locs ls ⟨(by show (i + 1) ≤ L k; omega), hg8, hgG, (by show gFs2 pg L fa fb k (i + 1) (updN (updN L2 k ((L2 k) + 1)) k (((updN L2 k ((L2 k) + 1)) k) + 1)) (upd (va_cpy pg (gBlank (gBlank pf2 (((k * 8) + (L2 k)) * 8) 4) (((k * 8) + ((updN L2 k ((L2 k) + 1)) k)) * 8) (pg ((((k * 8) + i) * 8) + 0))) (((k * 8) + i) * 8) (((k * 8) + ((updN L2 k ((L2 k) + 1)) k)) * 8) 8) ((((k * 8) + ((updN L2 k ((L2 k) + 1)) k)) * 8) + 7) ((pg ((((k * 8) + i) * 8) + 7)) + (nI (e_28 + e_30)))); first | exact gFs2_n hne hL6 (by omega) (by omega) hi41_3 (gPt_n (by omega) (by omega) hxa hyb hnx9 hny9) hvv | exact gFs2_f hne hL6 (by omega) (by omega) hi41_3 hput hvv | (exfalso; omega)), hP, hD, hS, lv_sub hl [0, 4, 5, 6, 7, 8] rfl⟩ (by show L k - (i + 1) < L k - i; omega)
