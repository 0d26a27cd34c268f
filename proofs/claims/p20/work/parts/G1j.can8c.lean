
def wsP_x_isLocked : List Cond := .code yX7_isLocked cX7_isLocked 1 (some .boolean) :: (([]) ++ [])
theorem gW_x_isLocked : wsP_x_isLocked.all goodWord = true := by unfold wsP_x_isLocked; exact gw_mk (by decide +kernel) rfl
set_option maxHeartbeats 4000000 in
set_option maxRecDepth 100000 in
theorem x_isLocked (l : Launch) (D : va_G) (cI cB cZ : ClassId) (x : Int32)  : gMi l yX7_isLocked wsP_x_isLocked ({ frames := 0, cells := 0, slots := 0, locals := 0 }) D cI cB cZ [] [.int x] [] (fun r9 w9 => ∃ z : Int32, ((z = 1 ∧ gLkd x) ∨ (z = 0 ∧ ¬ gLkd x)) ∧ r9 = z ∧ w9 = []) := by
  refine gMi.of (cc := cX7_isLocked) (maxL := 1) (ret := (some .boolean)) (by decide) rfl (Nat.le_of_ble_eq_true rfl) (fun p e s m below meth c A ls hx hb hr hlk hml hts hown hin hA hP hK hD hS hN hl => ?_)
  have hown : s.vm.findClass RX7 = some m.cls := hown
  have hl : lv_has ls 1 [(0, .int x)] := hl
  refine lv_iload_n hx hb dX7_isLocked_0 rfl (lv_at hl 0 rfl) ?_
  refine lv_iconst (v := 5) hx hb dX7_isLocked_1 (by decide) ?_
  refine lv_icmp_eq (tgt := 17) hx hb dX7_isLocked_2 (by decide) (fun c_1 => ?_) (fun c_1 => ?_)
  · refine lv_iconst (v := 1) hx hb dX7_isLocked_17 (by decide) ?_
    refine lv_goto (tgt := 22) hx hb dX7_isLocked_18 (by decide) ?_
    exact gx_zret (w' := []) hx hb hr hlk hK hP hD hS (Nat.le_of_ble_eq_true rfl) (Nat.le_of_ble_eq_true rfl) dX7_isLocked_22 rfl ⟨1, (by first | exact Or.inl ⟨rfl, Or.inl c_1⟩ | exact Or.inl ⟨rfl, Or.inr (Or.inl c_1)⟩ | exact Or.inl ⟨rfl, Or.inr (Or.inr c_1)⟩ | exact Or.inr ⟨rfl, fun h => h.elim c_1 (fun h => h.elim c_1 c_1)⟩), rfl, rfl⟩
  · refine lv_iload_n hx hb dX7_isLocked_5 rfl (lv_at hl 0 rfl) ?_
    refine lv_bipush (v := 6) hx hb dX7_isLocked_6 (by decide) ?_
    refine lv_icmp_eq (tgt := 17) hx hb dX7_isLocked_8 (by decide) (fun c_2 => ?_) (fun c_2 => ?_)
    · refine lv_iconst (v := 1) hx hb dX7_isLocked_17 (by decide) ?_
      refine lv_goto (tgt := 22) hx hb dX7_isLocked_18 (by decide) ?_
      exact gx_zret (w' := []) hx hb hr hlk hK hP hD hS (Nat.le_of_ble_eq_true rfl) (Nat.le_of_ble_eq_true rfl) dX7_isLocked_22 rfl ⟨1, (by first | exact Or.inl ⟨rfl, Or.inl c_2⟩ | exact Or.inl ⟨rfl, Or.inr (Or.inl c_2)⟩ | exact Or.inl ⟨rfl, Or.inr (Or.inr c_2)⟩ | exact Or.inr ⟨rfl, fun h => h.elim c_1 (fun h => h.elim c_1 c_2)⟩), rfl, rfl⟩
    · refine lv_iload_n hx hb dX7_isLocked_11 rfl (lv_at hl 0 rfl) ?_
      refine lv_bipush (v := 7) hx hb dX7_isLocked_12 (by decide) ?_
      refine lv_icmp_ne (tgt := 21) hx hb dX7_isLocked_14 (by decide) (fun c_3 => ?_) (fun c_3 => ?_)
      · refine lv_iconst (v := 0) hx hb dX7_isLocked_21 (by decide) ?_
        exact gx_zret (w' := []) hx hb hr hlk hK hP hD hS (Nat.le_of_ble_eq_true rfl) (Nat.le_of_ble_eq_true rfl) dX7_isLocked_22 rfl ⟨0, (by first | exact Or.inl ⟨rfl, Or.inl c_3⟩ | exact Or.inl ⟨rfl, Or.inr (Or.inl c_3)⟩ | exact Or.inl ⟨rfl, Or.inr (Or.inr c_3)⟩ | exact Or.inr ⟨rfl, fun h => h.elim c_1 (fun h => h.elim c_2 c_3)⟩), rfl, rfl⟩
      · refine lv_iconst (v := 1) hx hb dX7_isLocked_17 (by decide) ?_
        refine lv_goto (tgt := 22) hx hb dX7_isLocked_18 (by decide) ?_
        exact gx_zret (w' := []) hx hb hr hlk hK hP hD hS (Nat.le_of_ble_eq_true rfl) (Nat.le_of_ble_eq_true rfl) dX7_isLocked_22 rfl ⟨1, (by first | exact Or.inl ⟨rfl, Or.inl c_3⟩ | exact Or.inl ⟨rfl, Or.inr (Or.inl c_3)⟩ | exact Or.inl ⟨rfl, Or.inr (Or.inr c_3)⟩ | exact Or.inr ⟨rfl, fun h => h.elim c_1 (fun h => h.elim c_2 c_3)⟩), rfl, rfl⟩
def wsP_x_waits : List Cond := .code yX7_waits cX7_waits 1 (some .boolean) :: (([.methodLink RX7 54 yX7_isLocked, .static yX7_isLocked, .initialized yX7_isLocked.cls]) ++ (wsP_x_isLocked ++ []))
theorem gW_x_waits : wsP_x_waits.all goodWord = true := by unfold wsP_x_waits; exact gw_mk (by decide +kernel) (gw_app gW_x_isLocked rfl)
set_option maxRecDepth 20000 in
theorem gP_x_waits__x_isLocked : GoodIn wsP_x_waits (va_wsS RX7 54 yX7_isLocked wsP_x_isLocked) := gw_in (pre := [.methodLink RX7 54 yX7_isLocked, .static yX7_isLocked, .initialized yX7_isLocked.cls]) (by decide +kernel) (fun _ h => List.mem_cons_of_mem _ (List.mem_append_right _ (List.mem_append_left _ h))) gW_x_isLocked
set_option maxHeartbeats 4000000 in
set_option maxRecDepth 100000 in
theorem x_waits (l : Launch) (D : va_G) (cI cB cZ : ClassId) (x : Int32)  : gMi l yX7_waits wsP_x_waits ({ frames := 1, cells := 0, slots := 0, locals := 20 }) D cI cB cZ [] [.int x] [] (fun r9 w9 => ∃ z : Int32, ((z = 1 ∧ gWts x) ∨ (z = 0 ∧ ¬ gWts x)) ∧ r9 = z ∧ w9 = []) := by
  refine gMi.of (cc := cX7_waits) (maxL := 1) (ret := (some .boolean)) (by decide) rfl (Nat.le_of_ble_eq_true rfl) (fun p e s m below meth c A ls hx hb hr hlk hml hts hown hin hA hP hK hD hS hN hl => ?_)
  have hown : s.vm.findClass RX7 = some m.cls := hown
  have hl : lv_has ls 1 [(0, .int x)] := hl
  refine lv_iload_n hx hb dX7_waits_0 rfl (lv_at hl 0 rfl) ?_
  refine lv_iconst (v := 4) hx hb dX7_waits_1 (by decide) ?_
  refine lv_icmp_eq (tgt := 12) hx hb dX7_waits_2 (by decide) (fun c_1 => ?_) (fun c_1 => ?_)
  · refine lv_iconst (v := 1) hx hb dX7_waits_12 (by decide) ?_
    refine lv_goto (tgt := 17) hx hb dX7_waits_13 (by decide) ?_
    exact gx_zret (w' := []) hx hb hr hlk hK hP hD hS (Nat.le_of_ble_eq_true rfl) (Nat.le_of_ble_eq_true rfl) dX7_waits_17 rfl ⟨1, (by first | exact Or.inl ⟨rfl, Or.inl c_1⟩ | exact Or.inl ⟨rfl, Or.inr (hx6_0.resolve_right (fun q => c_1 q.1)).2⟩ | exact Or.inr ⟨rfl, fun h => h.elim c_1 (hx6_0.resolve_left (fun q => absurd (q.1.symm.trans c_1) (by decide))).2⟩), rfl, rfl⟩
  · refine lv_iload_n hx hb dX7_waits_5 rfl (lv_at hl 0 rfl) ?_
    refine gx_goi (wc := []) (wr := []) (va_runS (As := [.int x]) (rest := []) ⟨hx, hb, hml, hown, hts⟩ (x_isLocked l D cI cB cZ x _) (va_cwS 1 hts gP_x_waits__x_isLocked rfl rfl rfl (by decide +kernel) ⟨Nat.le_of_ble_eq_true rfl, Nat.le_of_ble_eq_true rfl⟩) (gx_preS hK gN.nil hP hD [] rfl rfl) rfl rfl hl.1 rfl (lv_room (Nat.le_of_ble_eq_true rfl)) dX7_waits_6 ⟨Nat.le_of_ble_eq_true rfl, Nat.le_of_ble_eq_true rfl⟩) hP hD hS hA [] [] rfl rfl rfl (by decide) (fun r1 w1 H locs hp hP hD hS => ?_)
    obtain ⟨e_2, hx6_0, h9, rfl⟩ := hp
    have h9 := h9.symm
    subst h9
    have hx6_0 : (e_2 = 1 ∧ gLkd x) ∨ (e_2 = 0 ∧ ¬ gLkd x) := hx6_0
    refine lv_if_eq (tgt := 16) hx hb dX7_waits_9 (by decide) (fun c_3 => ?_) (fun c_3 => ?_)
    · refine lv_iconst (v := 0) hx hb dX7_waits_16 (by decide) ?_
      exact gx_zret (w' := []) hx hb hr hlk hK hP hD hS (Nat.le_of_ble_eq_true rfl) (Nat.le_of_ble_eq_true rfl) dX7_waits_17 rfl ⟨0, (by first | exact Or.inl ⟨rfl, Or.inl c_3⟩ | exact Or.inl ⟨rfl, Or.inr (hx6_0.resolve_right (fun q => c_3 q.1)).2⟩ | exact Or.inr ⟨rfl, fun h => h.elim c_1 (hx6_0.resolve_left (fun q => absurd (q.1.symm.trans c_3) (by decide))).2⟩), rfl, rfl⟩
    · refine lv_iconst (v := 1) hx hb dX7_waits_12 (by decide) ?_
      refine lv_goto (tgt := 17) hx hb dX7_waits_13 (by decide) ?_
      exact gx_zret (w' := []) hx hb hr hlk hK hP hD hS (Nat.le_of_ble_eq_true rfl) (Nat.le_of_ble_eq_true rfl) dX7_waits_17 rfl ⟨1, (by first | exact Or.inl ⟨rfl, Or.inl c_3⟩ | exact Or.inl ⟨rfl, Or.inr (hx6_0.resolve_right (fun q => c_3 q.1)).2⟩ | exact Or.inr ⟨rfl, fun h => h.elim c_1 (hx6_0.resolve_left (fun q => absurd (q.1.symm.trans c_3) (by decide))).2⟩), rfl, rfl⟩
def wsP_x_can8 : List Cond := .code yX7_can cX7_can 4 (some .boolean) :: (([.fieldLink RX7 15 "LitmusHall$Program" "cores" "I", .methodLink RX7 43 yX7_nextOf, .instanceMethod yX7_nextOf, .selects RX7 yX7_nextOf yX7_nextOf, .initialized RX7, .fieldLink RX7 36 "LitmusHall$Program" "lengths" "[I", .methodLink RX7 39 yX7_rowSize, .instanceMethod yX7_rowSize, .selects RX7 yX7_rowSize yX7_rowSize, .methodLink RX7 46 yX4_part, .instanceMethod yX4_part, .selects RX4 yX4_part yX4_part, .initialized RX4, .methodLink RX7 50 yX7_waits, .static yX7_waits, .initialized yX7_waits.cls] ++ wsX40) ++ (wsP_c_nextOf ++ (wsP_c_rowSize ++ (wsP_c_part ++ (wsP_x_waits ++ [])))))
theorem gW_x_can8 : wsP_x_can8.all goodWord = true := by unfold wsP_x_can8; exact gw_mk (by decide +kernel) (gw_app gW_c_nextOf (gw_app gW_c_rowSize (gw_app gW_c_part (gw_app gW_x_waits rfl))))
set_option maxRecDepth 20000 in
theorem gP_x_can8__c_nextOf : GoodIn wsP_x_can8 (wsV RX7 43 RX7 yX7_nextOf wsP_c_nextOf) := gw_in (pre := [.methodLink RX7 43 yX7_nextOf, .instanceMethod yX7_nextOf, .selects RX7 yX7_nextOf yX7_nextOf, .initialized RX7]) (by decide +kernel) (fun _ h => List.mem_cons_of_mem _ (List.mem_append_right _ (List.mem_append_left _ h))) gW_c_nextOf
set_option maxRecDepth 20000 in
theorem gP_x_can8__c_rowSize : GoodIn wsP_x_can8 (wsV RX7 39 RX7 yX7_rowSize wsP_c_rowSize) := gw_in (pre := [.methodLink RX7 39 yX7_rowSize, .instanceMethod yX7_rowSize, .selects RX7 yX7_rowSize yX7_rowSize, .initialized RX7]) (by decide +kernel) (fun _ h => List.mem_cons_of_mem _ (List.mem_append_right _ (List.mem_append_right _ (List.mem_append_left _ h)))) gW_c_rowSize
set_option maxRecDepth 20000 in
theorem gP_x_can8__c_part : GoodIn wsP_x_can8 (wsV RX7 46 RX4 yX4_part wsP_c_part) := gw_in (pre := [.methodLink RX7 46 yX4_part, .instanceMethod yX4_part, .selects RX4 yX4_part yX4_part, .initialized RX4]) (by decide +kernel) (fun _ h => List.mem_cons_of_mem _ (List.mem_append_right _ (List.mem_append_right _ (List.mem_append_right _ (List.mem_append_left _ h))))) gW_c_part
set_option maxRecDepth 20000 in
theorem gP_x_can8__x_waits : GoodIn wsP_x_can8 (va_wsS RX7 50 yX7_waits wsP_x_waits) := gw_in (pre := [.methodLink RX7 50 yX7_waits, .static yX7_waits, .initialized yX7_waits.cls]) (by decide +kernel) (fun _ h => List.mem_cons_of_mem _ (List.mem_append_right _ (List.mem_append_right _ (List.mem_append_right _ (List.mem_append_right _ (List.mem_append_left _ h)))))) gW_x_waits
set_option maxHeartbeats 4000000 in
set_option maxRecDepth 100000 in
theorem x_can8 (l : Launch) (D : va_G) (cI cB cZ : ClassId) (h0 : Nat) (a1 : Nat) (f : Nat → Int32) (p0 : Nat) (b1 : Nat) (b3 : Nat) (v2 : Value) (nc : Nat) (L : Nat → Nat) (pf : Nat → Int32) (x : Int32) (hc : nc ≤ 3) (hL : ∀ k, k < 3 → L k ≤ 8) : gMi l yX7_can wsP_x_can8 ({ frames := 2, cells := 0, slots := 0, locals := 44 }) D cI cB cZ [] [.ref h0, .ref p0, .int x] [(h0, .inr (7, [.ref a1])), (a1, .inl (cI, 34, .inl f)), (p0, .inr (4, [.int (nI nc), .ref b1, v2, .ref b3])), (b1, .inl (cI, 3, .inl (fun j => nI (L j)))), (b3, .inl (cI, 192, .inl pf))] (fun r9 w9 => ∃ z : Int32, (z = 0 ∨ (z = 1 ∧ gCan f L nc x)) ∧ ((z = 1 ∧ gCE f pf L nc x) ∨ (z = 0 ∧ ¬ gCE f pf L nc x)) ∧ r9 = z ∧ w9 = [(h0, .inr (7, [.ref a1])), (a1, .inl (cI, 34, .inl f)), (p0, .inr (4, [.int (nI nc), .ref b1, v2, .ref b3])), (b1, .inl (cI, 3, .inl (fun j => nI (L j)))), (b3, .inl (cI, 192, .inl pf))]) := by
  refine gMi.of (cc := cX7_can) (maxL := 4) (ret := (some .boolean)) (by decide) rfl (Nat.le_of_ble_eq_true rfl) (fun p e s m below meth c A ls hx hb hr hlk hml hts hown hin hA hP hK hD hS hN hl => ?_)
  have hown : s.vm.findClass RX7 = some m.cls := hown
  have hl : lv_has ls 4 [(0, .ref h0), (1, .ref p0), (2, .int x)] := hl
  refine lv_iload_n hx hb dX7_can_0 rfl (lv_at hl 2 rfl) ?_
  refine lv_iconst (v := 3) hx hb dX7_can_1 (by decide) ?_
  refine lv_icmp_lt (tgt := 27) hx hb dX7_can_2 (by decide) (fun c_1 => ?_) (fun c_1 => ?_)
  · refine lv_iload_n hx hb dX7_can_27 rfl (lv_at hl 2 rfl) ?_
    refine lv_if_lt (tgt := 39) hx hb dX7_can_28 (by decide) (fun c_2 => ?_) (fun c_2 => ?_)
    · refine lv_iconst (v := 0) hx hb dX7_can_39 (by decide) ?_
      exact gx_zret (w' := [(h0, .inr (7, [.ref a1])), (a1, .inl (cI, 34, .inl f)), (p0, .inr (4, [.int (nI nc), .ref b1, v2, .ref b3])), (b1, .inl (cI, 3, .inl (fun j => nI (L j)))), (b3, .inl (cI, 192, .inl pf))]) hx hb hr hlk hK hP hD hS (Nat.le_of_ble_eq_true rfl) (Nat.le_of_ble_eq_true rfl) dX7_can_40 rfl ⟨0, (Or.inl rfl), (by first | exact Or.inr ⟨rfl, gCE_o hc (Or.inl c_1) (Or.inl c_2)⟩ | exact Or.inr ⟨rfl, gCE_o hc (Or.inl c_1) (Or.inr (Int32.not_lt.mp c_2))⟩ | exact Or.inr ⟨rfl, gCE_o hc (Or.inr c_2) (Or.inl c_2)⟩ | exact Or.inr ⟨rfl, gCE_o hc (Or.inr c_2) (Or.inr (Int32.not_lt.mp c_2))⟩), rfl, rfl⟩
    · refine lv_iload_n hx hb dX7_can_31 rfl (lv_at hl 2 rfl) ?_
      refine lv_aload_n hx hb dX7_can_32 rfl (lv_at hl 1 rfl) ?_
      refine va_get (D := D) (ci := 4) (v := .int (nI nc)) (C := RX4) (T := TX4) (N := 4) hx hb hts (fun _ h => List.mem_cons_of_mem _ (List.mem_append_left _ (List.mem_append_right _ h))) hown hK hP 2 rfl rfl 0 (by decide) (hts (.fieldLink RX7 15 "LitmusHall$Program" "cores" "I") (by decide +kernel)) (fun _ h9 => h9) rfl dX7_can_33 ?_
      refine lv_icmp_lt (tgt := 41) hx hb dX7_can_36 (by decide) (fun c_3 => ?_) (fun c_3 => ?_)
      · obtain ⟨k, hk, rfl⟩ := gy_inc (c := nc) (by omega) c_2 c_3
        have hl : lv_has ls 4 [(0, .ref h0), (1, .ref p0), (2, .int (nI k))] := hl
        refine lv_aload_n hx hb dX7_can_41 rfl (lv_at hl 0 rfl) ?_
        refine lv_iload_n hx hb dX7_can_42 rfl (lv_at hl 2 rfl) ?_
        refine gx_goi (wc := [(h0, .inr (7, [.ref a1])), (a1, .inl (cI, 34, .inl f))]) (wr := [(p0, .inr (4, [.int (nI nc), .ref b1, v2, .ref b3])), (b1, .inl (cI, 3, .inl (fun j => nI (L j)))), (b3, .inl (cI, 192, .inl pf))]) (va_runV (As := [.int (nI k)]) (rest := []) ⟨hx, hb, hml, hown, hts⟩ (c_nextOf l D cI cB cZ h0 a1 f k (by omega) _) (cwV 1 hts gP_x_can8__c_nextOf rfl rfl rfl (by decide +kernel) ⟨Nat.le_of_ble_eq_true rfl, Nat.le_of_ble_eq_true rfl⟩) (gx_preV (ci := 7) (q0 := 0) hK gN.nil hP hD [0, 1] rfl rfl rfl rfl) rfl rfl hl.1 rfl (lv_room (Nat.le_of_ble_eq_true rfl)) dX7_can_43 ⟨Nat.le_of_ble_eq_true rfl, Nat.le_of_ble_eq_true rfl⟩) hP hD hS hA [0, 1] [2, 3, 4] rfl rfl rfl (by decide) (fun r1 w1 H locs hp hP hD hS => ?_)
        obtain ⟨h9, rfl⟩ := hp
        have h9 := h9.symm
        subst h9
        have hnx := gNx_lt (f (13 + k))
        refine lv_istore_n (lv' := [(3, .int (nI (gNx (f (13 + k))))), (0, .ref h0), (1, .ref p0), (2, .int (nI k))]) hx hb dX7_can_46 rfl hl (by decide) rfl (fun ls hl => ?_)
        refine lv_iload_n hx hb dX7_can_47 rfl (lv_at hl 0 rfl) ?_
        refine lv_aload_n hx hb dX7_can_48 rfl (lv_at hl 2 rfl) ?_
        refine va_get (D := D) (ci := 4) (v := .ref b1) (C := RX4) (T := TX4) (N := 4) hx hb hts (fun _ h => List.mem_cons_of_mem _ (List.mem_append_left _ (List.mem_append_right _ h))) hown hK hP 0 rfl rfl 1 (by decide) (hts (.fieldLink RX7 36 "LitmusHall$Program" "lengths" "[I") (by decide +kernel)) (fun _ h9 => h9) rfl dX7_can_49 ?_
        refine lv_iload_n hx hb dX7_can_52 rfl (lv_at hl 3 rfl) ?_
        refine gy_ild (i := k) hx hb hK hP 1 rfl (by omega) (by omega) dX7_can_53 ?_
        refine gx_top (y := nI (L k)) rfl ?_
        have hL0 := hL k (by omega)
        refine gy_ge (a := (gNx (f (13 + k)))) (b := (L k)) (tgt := 82) hx hb (by omega) (by omega) dX7_can_54 (by decide) (fun c_4 => ?_) (fun c_4 => ?_)
        · refine lv_iconst (v := 0) hx hb dX7_can_82 (by decide) ?_
          have hP := hP.sub (ws' := [(h0, .inr (7, [.ref a1])), (a1, .inl (cI, 34, .inl f)), (p0, .inr (4, [.int (nI nc), .ref b1, v2, .ref b3])), (b1, .inl (cI, 3, .inl (fun j => nI (L j)))), (b3, .inl (cI, 192, .inl pf))]) [3, 4, 0, 1, 2] rfl
          have hD := hD.sub (ws' := [(h0, .inr (7, [.ref a1])), (a1, .inl (cI, 34, .inl f)), (p0, .inr (4, [.int (nI nc), .ref b1, v2, .ref b3])), (b1, .inl (cI, 3, .inl (fun j => nI (L j)))), (b3, .inl (cI, 192, .inl pf))]) [3, 4, 0, 1, 2] (by decide) rfl
          exact gx_zret (w' := [(h0, .inr (7, [.ref a1])), (a1, .inl (cI, 34, .inl f)), (p0, .inr (4, [.int (nI nc), .ref b1, v2, .ref b3])), (b1, .inl (cI, 3, .inl (fun j => nI (L j)))), (b3, .inl (cI, 192, .inl pf))]) hx hb hr hlk hK hP hD hS (Nat.le_of_ble_eq_true rfl) (Nat.le_of_ble_eq_true rfl) dX7_can_83 rfl ⟨0, (by first | exact Or.inl rfl | exact Or.inr ⟨rfl, Or.inr ⟨k, hk, rfl, hnl⟩⟩), (by first | exact Or.inl ⟨rfl, (gCE_k hk hc).mpr ⟨hnl, Or.inr (hx72_0.resolve_left (fun q => absurd (q.1.symm.trans c_4) (by decide))).2⟩⟩ | exact Or.inl ⟨rfl, (gCE_k hk hc).mpr ⟨hnl, Or.inl (by omega)⟩⟩ | exact Or.inr ⟨rfl, fun h => ((gCE_k hk hc).mp h).2.elim hs0 (fun q => q (hx72_0.resolve_right (fun q => c_4 q.1)).2)⟩ | exact Or.inr ⟨rfl, fun h => absurd ((gCE_k hk hc).mp h).1 (by omega)⟩), rfl, rfl⟩
        · have hnl := c_4
          refine lv_aload_n hx hb dX7_can_57 rfl (lv_at hl 1 rfl) ?_
          refine lv_iload_n hx hb dX7_can_58 rfl (lv_at hl 3 rfl) ?_
          refine gx_goi (wc := [(h0, .inr (7, [.ref a1])), (a1, .inl (cI, 34, .inl f))]) (wr := [(p0, .inr (4, [.int (nI nc), .ref b1, v2, .ref b3])), (b1, .inl (cI, 3, .inl (fun j => nI (L j)))), (b3, .inl (cI, 192, .inl pf))]) (va_runV (As := [.int (nI k)]) (rest := []) ⟨hx, hb, hml, hown, hts⟩ (c_rowSize l D cI cB cZ h0 a1 f k (by omega) _) (cwV 1 hts gP_x_can8__c_rowSize rfl rfl rfl (by decide +kernel) ⟨Nat.le_of_ble_eq_true rfl, Nat.le_of_ble_eq_true rfl⟩) (gx_preV (ci := 7) (q0 := 0) hK gN.nil hP hD [3, 4] rfl rfl rfl rfl) rfl rfl hl.1 rfl (lv_room (Nat.le_of_ble_eq_true rfl)) dX7_can_59 ⟨Nat.le_of_ble_eq_true rfl, Nat.le_of_ble_eq_true rfl⟩) hP hD hS hA [3, 4] [0, 1, 2] rfl rfl rfl (by decide) (fun r1 w1 H locs hp hP hD hS => ?_)
          obtain ⟨h9, rfl⟩ := hp
          have h9 := h9.symm
          subst h9
          have hsz := gSz_lt (f (13 + k))
          refine lv_if_eq (tgt := 78) hx hb dX7_can_62 (by decide) (fun c_5i => ?_) (fun c_5i => ?_)
          · have c_5 : gSz (f (13 + k)) = 0 := (nI_eq (a := gSz (f (13 + k))) (b := 0) (by omega) (by decide)).mp c_5i
            refine lv_iconst (v := 1) hx hb dX7_can_78 (by decide) ?_
            refine lv_goto (tgt := 83) hx hb dX7_can_79 (by decide) ?_
            have hP := hP.sub (ws' := [(h0, .inr (7, [.ref a1])), (a1, .inl (cI, 34, .inl f)), (p0, .inr (4, [.int (nI nc), .ref b1, v2, .ref b3])), (b1, .inl (cI, 3, .inl (fun j => nI (L j)))), (b3, .inl (cI, 192, .inl pf))]) [3, 4, 0, 1, 2] rfl
            have hD := hD.sub (ws' := [(h0, .inr (7, [.ref a1])), (a1, .inl (cI, 34, .inl f)), (p0, .inr (4, [.int (nI nc), .ref b1, v2, .ref b3])), (b1, .inl (cI, 3, .inl (fun j => nI (L j)))), (b3, .inl (cI, 192, .inl pf))]) [3, 4, 0, 1, 2] (by decide) rfl
            exact gx_zret (w' := [(h0, .inr (7, [.ref a1])), (a1, .inl (cI, 34, .inl f)), (p0, .inr (4, [.int (nI nc), .ref b1, v2, .ref b3])), (b1, .inl (cI, 3, .inl (fun j => nI (L j)))), (b3, .inl (cI, 192, .inl pf))]) hx hb hr hlk hK hP hD hS (Nat.le_of_ble_eq_true rfl) (Nat.le_of_ble_eq_true rfl) dX7_can_83 rfl ⟨1, (by first | exact Or.inl rfl | exact Or.inr ⟨rfl, Or.inr ⟨k, hk, rfl, hnl⟩⟩), (by first | exact Or.inl ⟨rfl, (gCE_k hk hc).mpr ⟨hnl, Or.inr (hx72_0.resolve_left (fun q => absurd (q.1.symm.trans c_5) (by decide))).2⟩⟩ | exact Or.inl ⟨rfl, (gCE_k hk hc).mpr ⟨hnl, Or.inl (by omega)⟩⟩ | exact Or.inr ⟨rfl, fun h => ((gCE_k hk hc).mp h).2.elim hs0 (fun q => q (hx72_0.resolve_right (fun q => c_5 q.1)).2)⟩ | exact Or.inr ⟨rfl, fun h => absurd ((gCE_k hk hc).mp h).1 (by omega)⟩), rfl, rfl⟩
          · have c_5 : gSz (f (13 + k)) ≠ 0 := fun q9 => c_5i ((nI_eq (a := gSz (f (13 + k))) (b := 0) (by omega) (by decide)).mpr q9)
            have hs0 : ¬ gSz (f (13 + k)) = 0 := by omega
            refine lv_aload_n hx hb dX7_can_65 rfl (lv_at hl 2 rfl) ?_
            refine lv_iload_n hx hb dX7_can_66 rfl (lv_at hl 3 rfl) ?_
            refine lv_iload_n hx hb dX7_can_67 rfl (lv_at hl 0 rfl) ?_
            refine lv_iconst (v := 0) hx hb dX7_can_68 (by decide) ?_
            refine gx_goi (wc := [(p0, .inr (4, [.int (nI nc), .ref b1, v2, .ref b3])), (b3, .inl (cI, 192, .inl pf))]) (wr := [(b1, .inl (cI, 3, .inl (fun j => nI (L j)))), (h0, .inr (7, [.ref a1])), (a1, .inl (cI, 34, .inl f))]) (va_runV (As := [.int (nI k), .int (nI (gNx (f (13 + k)))), .int 0]) (rest := []) ⟨hx, hb, hml, hown, hts⟩ (c_part l D cI cB cZ p0 b3 (.int (nI nc)) (.ref b1) (v2) pf k (gNx (f (13 + k))) 0 (by omega) (by omega) (by omega) _) (cwV 3 hts gP_x_can8__c_part rfl rfl rfl (by decide +kernel) ⟨Nat.le_of_ble_eq_true rfl, Nat.le_of_ble_eq_true rfl⟩) (gx_preV (ci := 4) (q0 := 0) hK gN.nil hP hD [0, 2] rfl rfl rfl rfl) rfl rfl hl.1 rfl (lv_room (Nat.le_of_ble_eq_true rfl)) dX7_can_69 ⟨Nat.le_of_ble_eq_true rfl, Nat.le_of_ble_eq_true rfl⟩) hP hD hS hA [0, 2] [1, 3, 4] rfl rfl rfl (by decide) (fun r1 w1 H locs hp hP hD hS => ?_)
            obtain ⟨h9, rfl⟩ := hp
            have h9 := h9.symm
            subst h9
            refine gx_goi (wc := []) (wr := [(b1, .inl (cI, 3, .inl (fun j => nI (L j)))), (h0, .inr (7, [.ref a1])), (a1, .inl (cI, 34, .inl f)), (p0, .inr (4, [.int (nI nc), .ref b1, v2, .ref b3])), (b3, .inl (cI, 192, .inl pf))]) (va_runS (As := [.int (pf ((((k * 8) + (gNx (f (13 + k)))) * 8) + 0))]) (rest := []) ⟨hx, hb, hml, hown, hts⟩ (x_waits l D cI cB cZ (pf ((((k * 8) + (gNx (f (13 + k)))) * 8) + 0)) _) (va_cwS 1 hts gP_x_can8__x_waits rfl rfl rfl (by decide +kernel) ⟨Nat.le_of_ble_eq_true rfl, Nat.le_of_ble_eq_true rfl⟩) (gx_preS hK gN.nil hP hD [] rfl rfl) rfl rfl hl.1 rfl (lv_room (Nat.le_of_ble_eq_true rfl)) dX7_can_72 ⟨Nat.le_of_ble_eq_true rfl, Nat.le_of_ble_eq_true rfl⟩) hP hD hS hA [] [0, 1, 2, 3, 4] rfl rfl rfl (by decide) (fun r1 w1 H locs hp hP hD hS => ?_)
            obtain ⟨e_6, hx72_0, h9, rfl⟩ := hp
            have h9 := h9.symm
            subst h9
            have hx72_0 : (e_6 = 1 ∧ gWts (pf ((((k * 8) + (gNx (f (13 + k)))) * 8) + 0))) ∨ (e_6 = 0 ∧ ¬ gWts (pf ((((k * 8) + (gNx (f (13 + k)))) * 8) + 0))) := hx72_0
            refine lv_if_ne (tgt := 82) hx hb dX7_can_75 (by decide) (fun c_7 => ?_) (fun c_7 => ?_)
            · refine lv_iconst (v := 0) hx hb dX7_can_82 (by decide) ?_
              have hP := hP.sub (ws' := [(h0, .inr (7, [.ref a1])), (a1, .inl (cI, 34, .inl f)), (p0, .inr (4, [.int (nI nc), .ref b1, v2, .ref b3])), (b1, .inl (cI, 3, .inl (fun j => nI (L j)))), (b3, .inl (cI, 192, .inl pf))]) [1, 2, 3, 0, 4] rfl
              have hD := hD.sub (ws' := [(h0, .inr (7, [.ref a1])), (a1, .inl (cI, 34, .inl f)), (p0, .inr (4, [.int (nI nc), .ref b1, v2, .ref b3])), (b1, .inl (cI, 3, .inl (fun j => nI (L j)))), (b3, .inl (cI, 192, .inl pf))]) [1, 2, 3, 0, 4] (by decide) rfl
              exact gx_zret (w' := [(h0, .inr (7, [.ref a1])), (a1, .inl (cI, 34, .inl f)), (p0, .inr (4, [.int (nI nc), .ref b1, v2, .ref b3])), (b1, .inl (cI, 3, .inl (fun j => nI (L j)))), (b3, .inl (cI, 192, .inl pf))]) hx hb hr hlk hK hP hD hS (Nat.le_of_ble_eq_true rfl) (Nat.le_of_ble_eq_true rfl) dX7_can_83 rfl ⟨0, (by first | exact Or.inl rfl | exact Or.inr ⟨rfl, Or.inr ⟨k, hk, rfl, hnl⟩⟩), (by first | exact Or.inl ⟨rfl, (gCE_k hk hc).mpr ⟨hnl, Or.inr (hx72_0.resolve_left (fun q => absurd (q.1.symm.trans c_7) (by decide))).2⟩⟩ | exact Or.inl ⟨rfl, (gCE_k hk hc).mpr ⟨hnl, Or.inl (by omega)⟩⟩ | exact Or.inr ⟨rfl, fun h => ((gCE_k hk hc).mp h).2.elim hs0 (fun q => q (hx72_0.resolve_right (fun q => c_7 q.1)).2)⟩ | exact Or.inr ⟨rfl, fun h => absurd ((gCE_k hk hc).mp h).1 (by omega)⟩), rfl, rfl⟩
            · refine lv_iconst (v := 1) hx hb dX7_can_78 (by decide) ?_
              refine lv_goto (tgt := 83) hx hb dX7_can_79 (by decide) ?_
              have hP := hP.sub (ws' := [(h0, .inr (7, [.ref a1])), (a1, .inl (cI, 34, .inl f)), (p0, .inr (4, [.int (nI nc), .ref b1, v2, .ref b3])), (b1, .inl (cI, 3, .inl (fun j => nI (L j)))), (b3, .inl (cI, 192, .inl pf))]) [1, 2, 3, 0, 4] rfl
              have hD := hD.sub (ws' := [(h0, .inr (7, [.ref a1])), (a1, .inl (cI, 34, .inl f)), (p0, .inr (4, [.int (nI nc), .ref b1, v2, .ref b3])), (b1, .inl (cI, 3, .inl (fun j => nI (L j)))), (b3, .inl (cI, 192, .inl pf))]) [1, 2, 3, 0, 4] (by decide) rfl
              exact gx_zret (w' := [(h0, .inr (7, [.ref a1])), (a1, .inl (cI, 34, .inl f)), (p0, .inr (4, [.int (nI nc), .ref b1, v2, .ref b3])), (b1, .inl (cI, 3, .inl (fun j => nI (L j)))), (b3, .inl (cI, 192, .inl pf))]) hx hb hr hlk hK hP hD hS (Nat.le_of_ble_eq_true rfl) (Nat.le_of_ble_eq_true rfl) dX7_can_83 rfl ⟨1, (by first | exact Or.inl rfl | exact Or.inr ⟨rfl, Or.inr ⟨k, hk, rfl, hnl⟩⟩), (by first | exact Or.inl ⟨rfl, (gCE_k hk hc).mpr ⟨hnl, Or.inr (hx72_0.resolve_left (fun q => absurd (q.1.symm.trans c_7) (by decide))).2⟩⟩ | exact Or.inl ⟨rfl, (gCE_k hk hc).mpr ⟨hnl, Or.inl (by omega)⟩⟩ | exact Or.inr ⟨rfl, fun h => ((gCE_k hk hc).mp h).2.elim hs0 (fun q => q (hx72_0.resolve_right (fun q => c_7 q.1)).2)⟩ | exact Or.inr ⟨rfl, fun h => absurd ((gCE_k hk hc).mp h).1 (by omega)⟩), rfl, rfl⟩
      · refine lv_iconst (v := 0) hx hb dX7_can_39 (by decide) ?_
        exact gx_zret (w' := [(h0, .inr (7, [.ref a1])), (a1, .inl (cI, 34, .inl f)), (p0, .inr (4, [.int (nI nc), .ref b1, v2, .ref b3])), (b1, .inl (cI, 3, .inl (fun j => nI (L j)))), (b3, .inl (cI, 192, .inl pf))]) hx hb hr hlk hK hP hD hS (Nat.le_of_ble_eq_true rfl) (Nat.le_of_ble_eq_true rfl) dX7_can_40 rfl ⟨0, (Or.inl rfl), (by first | exact Or.inr ⟨rfl, gCE_o hc (Or.inl c_1) (Or.inl c_3)⟩ | exact Or.inr ⟨rfl, gCE_o hc (Or.inl c_1) (Or.inr (Int32.not_lt.mp c_3))⟩ | exact Or.inr ⟨rfl, gCE_o hc (Or.inr c_2) (Or.inl c_3)⟩ | exact Or.inr ⟨rfl, gCE_o hc (Or.inr c_2) (Or.inr (Int32.not_lt.mp c_3))⟩), rfl, rfl⟩
  · refine lv_iload_n hx hb dX7_can_5 rfl (lv_at hl 2 rfl) ?_
    refine lv_bipush (v := 6) hx hb dX7_can_6 (by decide) ?_
    refine lv_icmp_ge (tgt := 27) hx hb dX7_can_8 (by decide) (fun c_8 => ?_) (fun c_8 => ?_)
    · refine lv_iload_n hx hb dX7_can_27 rfl (lv_at hl 2 rfl) ?_
      refine lv_if_lt (tgt := 39) hx hb dX7_can_28 (by decide) (fun c_9 => ?_) (fun c_9 => ?_)
      · refine lv_iconst (v := 0) hx hb dX7_can_39 (by decide) ?_
        exact gx_zret (w' := [(h0, .inr (7, [.ref a1])), (a1, .inl (cI, 34, .inl f)), (p0, .inr (4, [.int (nI nc), .ref b1, v2, .ref b3])), (b1, .inl (cI, 3, .inl (fun j => nI (L j)))), (b3, .inl (cI, 192, .inl pf))]) hx hb hr hlk hK hP hD hS (Nat.le_of_ble_eq_true rfl) (Nat.le_of_ble_eq_true rfl) dX7_can_40 rfl ⟨0, (Or.inl rfl), (by first | exact Or.inr ⟨rfl, gCE_o hc (Or.inl c_1) (Or.inl c_9)⟩ | exact Or.inr ⟨rfl, gCE_o hc (Or.inl c_1) (Or.inr (Int32.not_lt.mp c_9))⟩ | exact Or.inr ⟨rfl, gCE_o hc (Or.inr c_8) (Or.inl c_9)⟩ | exact Or.inr ⟨rfl, gCE_o hc (Or.inr c_8) (Or.inr (Int32.not_lt.mp c_9))⟩), rfl, rfl⟩
      · refine lv_iload_n hx hb dX7_can_31 rfl (lv_at hl 2 rfl) ?_
        refine lv_aload_n hx hb dX7_can_32 rfl (lv_at hl 1 rfl) ?_
        refine va_get (D := D) (ci := 4) (v := .int (nI nc)) (C := RX4) (T := TX4) (N := 4) hx hb hts (fun _ h => List.mem_cons_of_mem _ (List.mem_append_left _ (List.mem_append_right _ h))) hown hK hP 2 rfl rfl 0 (by decide) (hts (.fieldLink RX7 15 "LitmusHall$Program" "cores" "I") (by decide +kernel)) (fun _ h9 => h9) rfl dX7_can_33 ?_
        refine lv_icmp_lt (tgt := 41) hx hb dX7_can_36 (by decide) (fun c_10 => ?_) (fun c_10 => ?_)
        · obtain ⟨k, hk, rfl⟩ := gy_inc (c := nc) (by omega) c_9 c_10
          have hl : lv_has ls 4 [(0, .ref h0), (1, .ref p0), (2, .int (nI k))] := hl
          refine lv_aload_n hx hb dX7_can_41 rfl (lv_at hl 0 rfl) ?_
          refine lv_iload_n hx hb dX7_can_42 rfl (lv_at hl 2 rfl) ?_
          refine gx_goi (wc := [(h0, .inr (7, [.ref a1])), (a1, .inl (cI, 34, .inl f))]) (wr := [(p0, .inr (4, [.int (nI nc), .ref b1, v2, .ref b3])), (b1, .inl (cI, 3, .inl (fun j => nI (L j)))), (b3, .inl (cI, 192, .inl pf))]) (va_runV (As := [.int (nI k)]) (rest := []) ⟨hx, hb, hml, hown, hts⟩ (c_nextOf l D cI cB cZ h0 a1 f k (by omega) _) (cwV 1 hts gP_x_can8__c_nextOf rfl rfl rfl (by decide +kernel) ⟨Nat.le_of_ble_eq_true rfl, Nat.le_of_ble_eq_true rfl⟩) (gx_preV (ci := 7) (q0 := 0) hK gN.nil hP hD [0, 1] rfl rfl rfl rfl) rfl rfl hl.1 rfl (lv_room (Nat.le_of_ble_eq_true rfl)) dX7_can_43 ⟨Nat.le_of_ble_eq_true rfl, Nat.le_of_ble_eq_true rfl⟩) hP hD hS hA [0, 1] [2, 3, 4] rfl rfl rfl (by decide) (fun r1 w1 H locs hp hP hD hS => ?_)
          obtain ⟨h9, rfl⟩ := hp
          have h9 := h9.symm
          subst h9
          have hnx := gNx_lt (f (13 + k))
          refine lv_istore_n (lv' := [(3, .int (nI (gNx (f (13 + k))))), (0, .ref h0), (1, .ref p0), (2, .int (nI k))]) hx hb dX7_can_46 rfl hl (by decide) rfl (fun ls hl => ?_)
          refine lv_iload_n hx hb dX7_can_47 rfl (lv_at hl 0 rfl) ?_
          refine lv_aload_n hx hb dX7_can_48 rfl (lv_at hl 2 rfl) ?_
          refine va_get (D := D) (ci := 4) (v := .ref b1) (C := RX4) (T := TX4) (N := 4) hx hb hts (fun _ h => List.mem_cons_of_mem _ (List.mem_append_left _ (List.mem_append_right _ h))) hown hK hP 0 rfl rfl 1 (by decide) (hts (.fieldLink RX7 36 "LitmusHall$Program" "lengths" "[I") (by decide +kernel)) (fun _ h9 => h9) rfl dX7_can_49 ?_
          refine lv_iload_n hx hb dX7_can_52 rfl (lv_at hl 3 rfl) ?_
          refine gy_ild (i := k) hx hb hK hP 1 rfl (by omega) (by omega) dX7_can_53 ?_
          refine gx_top (y := nI (L k)) rfl ?_
          have hL0 := hL k (by omega)
          refine gy_ge (a := (gNx (f (13 + k)))) (b := (L k)) (tgt := 82) hx hb (by omega) (by omega) dX7_can_54 (by decide) (fun c_11 => ?_) (fun c_11 => ?_)
          · refine lv_iconst (v := 0) hx hb dX7_can_82 (by decide) ?_
            have hP := hP.sub (ws' := [(h0, .inr (7, [.ref a1])), (a1, .inl (cI, 34, .inl f)), (p0, .inr (4, [.int (nI nc), .ref b1, v2, .ref b3])), (b1, .inl (cI, 3, .inl (fun j => nI (L j)))), (b3, .inl (cI, 192, .inl pf))]) [3, 4, 0, 1, 2] rfl
            have hD := hD.sub (ws' := [(h0, .inr (7, [.ref a1])), (a1, .inl (cI, 34, .inl f)), (p0, .inr (4, [.int (nI nc), .ref b1, v2, .ref b3])), (b1, .inl (cI, 3, .inl (fun j => nI (L j)))), (b3, .inl (cI, 192, .inl pf))]) [3, 4, 0, 1, 2] (by decide) rfl
            exact gx_zret (w' := [(h0, .inr (7, [.ref a1])), (a1, .inl (cI, 34, .inl f)), (p0, .inr (4, [.int (nI nc), .ref b1, v2, .ref b3])), (b1, .inl (cI, 3, .inl (fun j => nI (L j)))), (b3, .inl (cI, 192, .inl pf))]) hx hb hr hlk hK hP hD hS (Nat.le_of_ble_eq_true rfl) (Nat.le_of_ble_eq_true rfl) dX7_can_83 rfl ⟨0, (by first | exact Or.inl rfl | exact Or.inr ⟨rfl, Or.inr ⟨k, hk, rfl, hnl⟩⟩), (by first | exact Or.inl ⟨rfl, (gCE_k hk hc).mpr ⟨hnl, Or.inr (hx72_0.resolve_left (fun q => absurd (q.1.symm.trans c_11) (by decide))).2⟩⟩ | exact Or.inl ⟨rfl, (gCE_k hk hc).mpr ⟨hnl, Or.inl (by omega)⟩⟩ | exact Or.inr ⟨rfl, fun h => ((gCE_k hk hc).mp h).2.elim hs0 (fun q => q (hx72_0.resolve_right (fun q => c_11 q.1)).2)⟩ | exact Or.inr ⟨rfl, fun h => absurd ((gCE_k hk hc).mp h).1 (by omega)⟩), rfl, rfl⟩
          · have hnl := c_11
            refine lv_aload_n hx hb dX7_can_57 rfl (lv_at hl 1 rfl) ?_
            refine lv_iload_n hx hb dX7_can_58 rfl (lv_at hl 3 rfl) ?_
            refine gx_goi (wc := [(h0, .inr (7, [.ref a1])), (a1, .inl (cI, 34, .inl f))]) (wr := [(p0, .inr (4, [.int (nI nc), .ref b1, v2, .ref b3])), (b1, .inl (cI, 3, .inl (fun j => nI (L j)))), (b3, .inl (cI, 192, .inl pf))]) (va_runV (As := [.int (nI k)]) (rest := []) ⟨hx, hb, hml, hown, hts⟩ (c_rowSize l D cI cB cZ h0 a1 f k (by omega) _) (cwV 1 hts gP_x_can8__c_rowSize rfl rfl rfl (by decide +kernel) ⟨Nat.le_of_ble_eq_true rfl, Nat.le_of_ble_eq_true rfl⟩) (gx_preV (ci := 7) (q0 := 0) hK gN.nil hP hD [3, 4] rfl rfl rfl rfl) rfl rfl hl.1 rfl (lv_room (Nat.le_of_ble_eq_true rfl)) dX7_can_59 ⟨Nat.le_of_ble_eq_true rfl, Nat.le_of_ble_eq_true rfl⟩) hP hD hS hA [3, 4] [0, 1, 2] rfl rfl rfl (by decide) (fun r1 w1 H locs hp hP hD hS => ?_)
            obtain ⟨h9, rfl⟩ := hp
            have h9 := h9.symm
            subst h9
            have hsz := gSz_lt (f (13 + k))
            refine lv_if_eq (tgt := 78) hx hb dX7_can_62 (by decide) (fun c_12i => ?_) (fun c_12i => ?_)
            · have c_12 : gSz (f (13 + k)) = 0 := (nI_eq (a := gSz (f (13 + k))) (b := 0) (by omega) (by decide)).mp c_12i
              refine lv_iconst (v := 1) hx hb dX7_can_78 (by decide) ?_
              refine lv_goto (tgt := 83) hx hb dX7_can_79 (by decide) ?_
              have hP := hP.sub (ws' := [(h0, .inr (7, [.ref a1])), (a1, .inl (cI, 34, .inl f)), (p0, .inr (4, [.int (nI nc), .ref b1, v2, .ref b3])), (b1, .inl (cI, 3, .inl (fun j => nI (L j)))), (b3, .inl (cI, 192, .inl pf))]) [3, 4, 0, 1, 2] rfl
              have hD := hD.sub (ws' := [(h0, .inr (7, [.ref a1])), (a1, .inl (cI, 34, .inl f)), (p0, .inr (4, [.int (nI nc), .ref b1, v2, .ref b3])), (b1, .inl (cI, 3, .inl (fun j => nI (L j)))), (b3, .inl (cI, 192, .inl pf))]) [3, 4, 0, 1, 2] (by decide) rfl
              exact gx_zret (w' := [(h0, .inr (7, [.ref a1])), (a1, .inl (cI, 34, .inl f)), (p0, .inr (4, [.int (nI nc), .ref b1, v2, .ref b3])), (b1, .inl (cI, 3, .inl (fun j => nI (L j)))), (b3, .inl (cI, 192, .inl pf))]) hx hb hr hlk hK hP hD hS (Nat.le_of_ble_eq_true rfl) (Nat.le_of_ble_eq_true rfl) dX7_can_83 rfl ⟨1, (by first | exact Or.inl rfl | exact Or.inr ⟨rfl, Or.inr ⟨k, hk, rfl, hnl⟩⟩), (by first | exact Or.inl ⟨rfl, (gCE_k hk hc).mpr ⟨hnl, Or.inr (hx72_0.resolve_left (fun q => absurd (q.1.symm.trans c_12) (by decide))).2⟩⟩ | exact Or.inl ⟨rfl, (gCE_k hk hc).mpr ⟨hnl, Or.inl (by omega)⟩⟩ | exact Or.inr ⟨rfl, fun h => ((gCE_k hk hc).mp h).2.elim hs0 (fun q => q (hx72_0.resolve_right (fun q => c_12 q.1)).2)⟩ | exact Or.inr ⟨rfl, fun h => absurd ((gCE_k hk hc).mp h).1 (by omega)⟩), rfl, rfl⟩
            · have c_12 : gSz (f (13 + k)) ≠ 0 := fun q9 => c_12i ((nI_eq (a := gSz (f (13 + k))) (b := 0) (by omega) (by decide)).mpr q9)
              have hs0 : ¬ gSz (f (13 + k)) = 0 := by omega
              refine lv_aload_n hx hb dX7_can_65 rfl (lv_at hl 2 rfl) ?_
              refine lv_iload_n hx hb dX7_can_66 rfl (lv_at hl 3 rfl) ?_
              refine lv_iload_n hx hb dX7_can_67 rfl (lv_at hl 0 rfl) ?_
              refine lv_iconst (v := 0) hx hb dX7_can_68 (by decide) ?_
              refine gx_goi (wc := [(p0, .inr (4, [.int (nI nc), .ref b1, v2, .ref b3])), (b3, .inl (cI, 192, .inl pf))]) (wr := [(b1, .inl (cI, 3, .inl (fun j => nI (L j)))), (h0, .inr (7, [.ref a1])), (a1, .inl (cI, 34, .inl f))]) (va_runV (As := [.int (nI k), .int (nI (gNx (f (13 + k)))), .int 0]) (rest := []) ⟨hx, hb, hml, hown, hts⟩ (c_part l D cI cB cZ p0 b3 (.int (nI nc)) (.ref b1) (v2) pf k (gNx (f (13 + k))) 0 (by omega) (by omega) (by omega) _) (cwV 3 hts gP_x_can8__c_part rfl rfl rfl (by decide +kernel) ⟨Nat.le_of_ble_eq_true rfl, Nat.le_of_ble_eq_true rfl⟩) (gx_preV (ci := 4) (q0 := 0) hK gN.nil hP hD [0, 2] rfl rfl rfl rfl) rfl rfl hl.1 rfl (lv_room (Nat.le_of_ble_eq_true rfl)) dX7_can_69 ⟨Nat.le_of_ble_eq_true rfl, Nat.le_of_ble_eq_true rfl⟩) hP hD hS hA [0, 2] [1, 3, 4] rfl rfl rfl (by decide) (fun r1 w1 H locs hp hP hD hS => ?_)
              obtain ⟨h9, rfl⟩ := hp
              have h9 := h9.symm
              subst h9
              refine gx_goi (wc := []) (wr := [(b1, .inl (cI, 3, .inl (fun j => nI (L j)))), (h0, .inr (7, [.ref a1])), (a1, .inl (cI, 34, .inl f)), (p0, .inr (4, [.int (nI nc), .ref b1, v2, .ref b3])), (b3, .inl (cI, 192, .inl pf))]) (va_runS (As := [.int (pf ((((k * 8) + (gNx (f (13 + k)))) * 8) + 0))]) (rest := []) ⟨hx, hb, hml, hown, hts⟩ (x_waits l D cI cB cZ (pf ((((k * 8) + (gNx (f (13 + k)))) * 8) + 0)) _) (va_cwS 1 hts gP_x_can8__x_waits rfl rfl rfl (by decide +kernel) ⟨Nat.le_of_ble_eq_true rfl, Nat.le_of_ble_eq_true rfl⟩) (gx_preS hK gN.nil hP hD [] rfl rfl) rfl rfl hl.1 rfl (lv_room (Nat.le_of_ble_eq_true rfl)) dX7_can_72 ⟨Nat.le_of_ble_eq_true rfl, Nat.le_of_ble_eq_true rfl⟩) hP hD hS hA [] [0, 1, 2, 3, 4] rfl rfl rfl (by decide) (fun r1 w1 H locs hp hP hD hS => ?_)
              obtain ⟨e_13, hx72_0, h9, rfl⟩ := hp
              have h9 := h9.symm
              subst h9
              have hx72_0 : (e_13 = 1 ∧ gWts (pf ((((k * 8) + (gNx (f (13 + k)))) * 8) + 0))) ∨ (e_13 = 0 ∧ ¬ gWts (pf ((((k * 8) + (gNx (f (13 + k)))) * 8) + 0))) := hx72_0
              refine lv_if_ne (tgt := 82) hx hb dX7_can_75 (by decide) (fun c_14 => ?_) (fun c_14 => ?_)
              · refine lv_iconst (v := 0) hx hb dX7_can_82 (by decide) ?_
                have hP := hP.sub (ws' := [(h0, .inr (7, [.ref a1])), (a1, .inl (cI, 34, .inl f)), (p0, .inr (4, [.int (nI nc), .ref b1, v2, .ref b3])), (b1, .inl (cI, 3, .inl (fun j => nI (L j)))), (b3, .inl (cI, 192, .inl pf))]) [1, 2, 3, 0, 4] rfl
                have hD := hD.sub (ws' := [(h0, .inr (7, [.ref a1])), (a1, .inl (cI, 34, .inl f)), (p0, .inr (4, [.int (nI nc), .ref b1, v2, .ref b3])), (b1, .inl (cI, 3, .inl (fun j => nI (L j)))), (b3, .inl (cI, 192, .inl pf))]) [1, 2, 3, 0, 4] (by decide) rfl
                exact gx_zret (w' := [(h0, .inr (7, [.ref a1])), (a1, .inl (cI, 34, .inl f)), (p0, .inr (4, [.int (nI nc), .ref b1, v2, .ref b3])), (b1, .inl (cI, 3, .inl (fun j => nI (L j)))), (b3, .inl (cI, 192, .inl pf))]) hx hb hr hlk hK hP hD hS (Nat.le_of_ble_eq_true rfl) (Nat.le_of_ble_eq_true rfl) dX7_can_83 rfl ⟨0, (by first | exact Or.inl rfl | exact Or.inr ⟨rfl, Or.inr ⟨k, hk, rfl, hnl⟩⟩), (by first | exact Or.inl ⟨rfl, (gCE_k hk hc).mpr ⟨hnl, Or.inr (hx72_0.resolve_left (fun q => absurd (q.1.symm.trans c_14) (by decide))).2⟩⟩ | exact Or.inl ⟨rfl, (gCE_k hk hc).mpr ⟨hnl, Or.inl (by omega)⟩⟩ | exact Or.inr ⟨rfl, fun h => ((gCE_k hk hc).mp h).2.elim hs0 (fun q => q (hx72_0.resolve_right (fun q => c_14 q.1)).2)⟩ | exact Or.inr ⟨rfl, fun h => absurd ((gCE_k hk hc).mp h).1 (by omega)⟩), rfl, rfl⟩
              · refine lv_iconst (v := 1) hx hb dX7_can_78 (by decide) ?_
                refine lv_goto (tgt := 83) hx hb dX7_can_79 (by decide) ?_
                have hP := hP.sub (ws' := [(h0, .inr (7, [.ref a1])), (a1, .inl (cI, 34, .inl f)), (p0, .inr (4, [.int (nI nc), .ref b1, v2, .ref b3])), (b1, .inl (cI, 3, .inl (fun j => nI (L j)))), (b3, .inl (cI, 192, .inl pf))]) [1, 2, 3, 0, 4] rfl
                have hD := hD.sub (ws' := [(h0, .inr (7, [.ref a1])), (a1, .inl (cI, 34, .inl f)), (p0, .inr (4, [.int (nI nc), .ref b1, v2, .ref b3])), (b1, .inl (cI, 3, .inl (fun j => nI (L j)))), (b3, .inl (cI, 192, .inl pf))]) [1, 2, 3, 0, 4] (by decide) rfl
                exact gx_zret (w' := [(h0, .inr (7, [.ref a1])), (a1, .inl (cI, 34, .inl f)), (p0, .inr (4, [.int (nI nc), .ref b1, v2, .ref b3])), (b1, .inl (cI, 3, .inl (fun j => nI (L j)))), (b3, .inl (cI, 192, .inl pf))]) hx hb hr hlk hK hP hD hS (Nat.le_of_ble_eq_true rfl) (Nat.le_of_ble_eq_true rfl) dX7_can_83 rfl ⟨1, (by first | exact Or.inl rfl | exact Or.inr ⟨rfl, Or.inr ⟨k, hk, rfl, hnl⟩⟩), (by first | exact Or.inl ⟨rfl, (gCE_k hk hc).mpr ⟨hnl, Or.inr (hx72_0.resolve_left (fun q => absurd (q.1.symm.trans c_14) (by decide))).2⟩⟩ | exact Or.inl ⟨rfl, (gCE_k hk hc).mpr ⟨hnl, Or.inl (by omega)⟩⟩ | exact Or.inr ⟨rfl, fun h => ((gCE_k hk hc).mp h).2.elim hs0 (fun q => q (hx72_0.resolve_right (fun q => c_14 q.1)).2)⟩ | exact Or.inr ⟨rfl, fun h => absurd ((gCE_k hk hc).mp h).1 (by omega)⟩), rfl, rfl⟩
        · refine lv_iconst (v := 0) hx hb dX7_can_39 (by decide) ?_
          exact gx_zret (w' := [(h0, .inr (7, [.ref a1])), (a1, .inl (cI, 34, .inl f)), (p0, .inr (4, [.int (nI nc), .ref b1, v2, .ref b3])), (b1, .inl (cI, 3, .inl (fun j => nI (L j)))), (b3, .inl (cI, 192, .inl pf))]) hx hb hr hlk hK hP hD hS (Nat.le_of_ble_eq_true rfl) (Nat.le_of_ble_eq_true rfl) dX7_can_40 rfl ⟨0, (Or.inl rfl), (by first | exact Or.inr ⟨rfl, gCE_o hc (Or.inl c_1) (Or.inl c_10)⟩ | exact Or.inr ⟨rfl, gCE_o hc (Or.inl c_1) (Or.inr (Int32.not_lt.mp c_10))⟩ | exact Or.inr ⟨rfl, gCE_o hc (Or.inr c_8) (Or.inl c_10)⟩ | exact Or.inr ⟨rfl, gCE_o hc (Or.inr c_8) (Or.inr (Int32.not_lt.mp c_10))⟩), rfl, rfl⟩
    · obtain ⟨k, hk, rfl⟩ := gy_in36 c_1 c_8
      have hl : lv_has ls 4 [(0, .ref h0), (1, .ref p0), (2, .int (nI (3 + k)))] := hl
      refine lv_aload_n hx hb dX7_can_11 rfl (lv_at hl 0 rfl) ?_
      refine lv_iload_n hx hb dX7_can_12 rfl (lv_at hl 2 rfl) ?_
      refine lv_iconst (v := 3) hx hb dX7_can_13 (by decide) ?_
      refine lv_isub hx hb dX7_can_14 ?_
      refine gx_top (y := nI k) (show nI (3 + k) - nI 3 = nI k by rw [pk_sub (by omega)]; congr 1; omega) ?_
      refine gx_goi (wc := [(h0, .inr (7, [.ref a1])), (a1, .inl (cI, 34, .inl f))]) (wr := [(p0, .inr (4, [.int (nI nc), .ref b1, v2, .ref b3])), (b1, .inl (cI, 3, .inl (fun j => nI (L j)))), (b3, .inl (cI, 192, .inl pf))]) (va_runV (As := [.int (nI k)]) (rest := []) ⟨hx, hb, hml, hown, hts⟩ (c_rowSize l D cI cB cZ h0 a1 f k (by omega) _) (cwV 1 hts gP_x_can8__c_rowSize rfl rfl rfl (by decide +kernel) ⟨Nat.le_of_ble_eq_true rfl, Nat.le_of_ble_eq_true rfl⟩) (gx_preV (ci := 7) (q0 := 0) hK gN.nil hP hD [0, 1] rfl rfl rfl rfl) rfl rfl hl.1 rfl (lv_room (Nat.le_of_ble_eq_true rfl)) dX7_can_15 ⟨Nat.le_of_ble_eq_true rfl, Nat.le_of_ble_eq_true rfl⟩) hP hD hS hA [0, 1] [2, 3, 4] rfl rfl rfl (by decide) (fun r1 w1 H locs hp hP hD hS => ?_)
      obtain ⟨h9, rfl⟩ := hp
      have h9 := h9.symm
      subst h9
      have hsz := gSz_lt (f (13 + k))
      refine lv_if_le (tgt := 25) hx hb dX7_can_18 (by decide) (fun c_15i => ?_) (fun c_15i => ?_)
      · have c_15 : gSz (f (13 + k)) ≤ 0 := (nI_leI (a := gSz (f (13 + k))) (b := 0) (by omega) (by decide)).mp c_15i
        refine lv_iconst (v := 0) hx hb dX7_can_25 (by decide) ?_
        have hP := hP.sub (ws' := [(h0, .inr (7, [.ref a1])), (a1, .inl (cI, 34, .inl f)), (p0, .inr (4, [.int (nI nc), .ref b1, v2, .ref b3])), (b1, .inl (cI, 3, .inl (fun j => nI (L j)))), (b3, .inl (cI, 192, .inl pf))]) [3, 4, 0, 1, 2] rfl
        have hD := hD.sub (ws' := [(h0, .inr (7, [.ref a1])), (a1, .inl (cI, 34, .inl f)), (p0, .inr (4, [.int (nI nc), .ref b1, v2, .ref b3])), (b1, .inl (cI, 3, .inl (fun j => nI (L j)))), (b3, .inl (cI, 192, .inl pf))]) [3, 4, 0, 1, 2] (by decide) rfl
        exact gx_zret (w' := [(h0, .inr (7, [.ref a1])), (a1, .inl (cI, 34, .inl f)), (p0, .inr (4, [.int (nI nc), .ref b1, v2, .ref b3])), (b1, .inl (cI, 3, .inl (fun j => nI (L j)))), (b3, .inl (cI, 192, .inl pf))]) hx hb hr hlk hK hP hD hS (Nat.le_of_ble_eq_true rfl) (Nat.le_of_ble_eq_true rfl) dX7_can_26 rfl ⟨0, (by first | exact Or.inl rfl | exact Or.inr ⟨rfl, Or.inl ⟨k, hk, rfl, c_15⟩⟩), (by first | exact Or.inl ⟨rfl, Or.inl ⟨k, hk, rfl, c_15⟩⟩ | exact Or.inr ⟨rfl, gCE_g hk hc (by omega)⟩), rfl, rfl⟩
      · have c_15 : 0 < gSz (f (13 + k)) := Nat.pos_of_ne_zero (fun q9 => c_15i ((nI_leI (a := gSz (f (13 + k))) (b := 0) (by omega) (by decide)).mpr (Nat.le_of_eq q9)))
        refine lv_iconst (v := 1) hx hb dX7_can_21 (by decide) ?_
        refine lv_goto (tgt := 26) hx hb dX7_can_22 (by decide) ?_
        have hP := hP.sub (ws' := [(h0, .inr (7, [.ref a1])), (a1, .inl (cI, 34, .inl f)), (p0, .inr (4, [.int (nI nc), .ref b1, v2, .ref b3])), (b1, .inl (cI, 3, .inl (fun j => nI (L j)))), (b3, .inl (cI, 192, .inl pf))]) [3, 4, 0, 1, 2] rfl
        have hD := hD.sub (ws' := [(h0, .inr (7, [.ref a1])), (a1, .inl (cI, 34, .inl f)), (p0, .inr (4, [.int (nI nc), .ref b1, v2, .ref b3])), (b1, .inl (cI, 3, .inl (fun j => nI (L j)))), (b3, .inl (cI, 192, .inl pf))]) [3, 4, 0, 1, 2] (by decide) rfl
        exact gx_zret (w' := [(h0, .inr (7, [.ref a1])), (a1, .inl (cI, 34, .inl f)), (p0, .inr (4, [.int (nI nc), .ref b1, v2, .ref b3])), (b1, .inl (cI, 3, .inl (fun j => nI (L j)))), (b3, .inl (cI, 192, .inl pf))]) hx hb hr hlk hK hP hD hS (Nat.le_of_ble_eq_true rfl) (Nat.le_of_ble_eq_true rfl) dX7_can_26 rfl ⟨1, (by first | exact Or.inl rfl | exact Or.inr ⟨rfl, Or.inl ⟨k, hk, rfl, c_15⟩⟩), (by first | exact Or.inl ⟨rfl, Or.inl ⟨k, hk, rfl, c_15⟩⟩ | exact Or.inr ⟨rfl, gCE_g hk hc (by omega)⟩), rfl, rfl⟩
def wsP_x_can9 : List Cond := .code yX9_can cX9_can 6 (some .boolean) :: (([.fieldLink RX9 7 "LitmusHallModel" "cores" "[I", .fieldLink RX9 75 "LitmusHallModel" "now" "[I", .fieldLink RX9 13 "LitmusHallModel" "many" "[I", .fieldLink RX9 16 "LitmusHallModel" "kind" "[I", .methodLink RX9 267 yX9_rowAt, .static yX9_rowAt, .initialized yX9_rowAt.cls] ++ wsX90) ++ (wsP_c_rowAt9 ++ []))
theorem gW_x_can9 : wsP_x_can9.all goodWord = true := by unfold wsP_x_can9; exact gw_mk (by decide +kernel) (gw_app gW_c_rowAt9 rfl)
set_option maxRecDepth 20000 in
theorem gP_x_can9__c_rowAt9 : GoodIn wsP_x_can9 (va_wsS RX9 267 yX9_rowAt wsP_c_rowAt9) := gw_in (pre := [.methodLink RX9 267 yX9_rowAt, .static yX9_rowAt, .initialized yX9_rowAt.cls]) (by decide +kernel) (fun _ h => List.mem_cons_of_mem _ (List.mem_append_right _ (List.mem_append_left _ h))) gW_c_rowAt9
set_option maxHeartbeats 4000000 in
set_option maxRecDepth 100000 in
theorem x_can9 (l : Launch) (D : va_G) (cI cB cZ : ClassId) (h0 : Nat) (a0 : Nat) (a1 : Nat) (a2 : Nat) (a22 : Nat) (v3 : Value) (v4 : Value) (v5 : Value) (v6 : Value) (v7 : Value) (v8 : Value) (v9 : Value) (v10 : Value) (v11 : Value) (v12 : Value) (v13 : Value) (v14 : Value) (v15 : Value) (v16 : Value) (v17 : Value) (v18 : Value) (v19 : Value) (v20 : Value) (v21 : Value) (v23 : Value) (v24 : Value) (v25 : Value) (v26 : Value) (v27 : Value) (v28 : Value) (v29 : Value) (v30 : Value) (v31 : Value) (v32 : Value) (v33 : Value) (v34 : Value) (v35 : Value) (v36 : Value) (v37 : Value) (v38 : Value) (v39 : Value) (v40 : Value) (v41 : Value) (v42 : Value) (v43 : Value) (v44 : Value) (v45 : Value) (v46 : Value) (v47 : Value) (v48 : Value) (v49 : Value) (v50 : Value) (v51 : Value) (C : Nat → Nat) (Mn : Nat → Nat) (kd : Nat → Int32) (nw : Nat → Int32) (nx : Nat → Nat) (rz : Nat → Nat) (pr : Nat) (mode : Int32) (x : Int32) (hpr : pr < 3) (hC : ∀ j, j < 3 → C j ≤ 3) (hM9 : ∀ j, j < 9 → Mn j ≤ 12) (hG : gW9 nw nx rz) : gMi l yX9_can wsP_x_can9 ({ frames := 1, cells := 0, slots := 0, locals := 20 }) D cI cB cZ [] [.ref h0, .int (nI pr), .int mode, .int x] [(h0, .inr (9, [.ref a0, .ref a1, .ref a2, v3, v4, v5, v6, v7, v8, v9, v10, v11, v12, v13, v14, v15, v16, v17, v18, v19, v20, v21, .ref a22, v23, v24, v25, v26, v27, v28, v29, v30, v31, v32, v33, v34, v35, v36, v37, v38, v39, v40, v41, v42, v43, v44, v45, v46, v47, v48, v49, v50, v51])), (a0, .inl (cI, 3, .inl (fun j => nI (C j)))), (a1, .inl (cI, 9, .inl (fun j => nI (Mn j)))), (a2, .inl (cI, 108, .inl kd)), (a22, .inl (cI, 58, .inl nw))] (fun r9 w9 => ∃ z : Int32, (z = 0 ∨ (z = 1 ∧ gCan9 C Mn nx rz pr mode x)) ∧ ((z = 1 ∧ gCE9 C Mn nx rz kd pr mode x) ∨ (z = 0 ∧ ¬ gCE9 C Mn nx rz kd pr mode x)) ∧ r9 = z ∧ w9 = [(h0, .inr (9, [.ref a0, .ref a1, .ref a2, v3, v4, v5, v6, v7, v8, v9, v10, v11, v12, v13, v14, v15, v16, v17, v18, v19, v20, v21, .ref a22, v23, v24, v25, v26, v27, v28, v29, v30, v31, v32, v33, v34, v35, v36, v37, v38, v39, v40, v41, v42, v43, v44, v45, v46, v47, v48, v49, v50, v51])), (a0, .inl (cI, 3, .inl (fun j => nI (C j)))), (a1, .inl (cI, 9, .inl (fun j => nI (Mn j)))), (a2, .inl (cI, 108, .inl kd)), (a22, .inl (cI, 58, .inl nw))]) := by
  refine gMi.of (cc := cX9_can) (maxL := 6) (ret := (some .boolean)) (by decide) rfl (Nat.le_of_ble_eq_true rfl) (fun p e s m below meth c A ls hx hb hr hlk hml hts hown hin hA hP hK hD hS hN hl => ?_)
  have hown : s.vm.findClass RX9 = some m.cls := hown
  have hl : lv_has ls 6 [(0, .ref h0), (1, .int (nI pr)), (2, .int mode), (3, .int x)] := hl
  refine lv_iload_n hx hb dX9_can_0 rfl (lv_at hl 3 rfl) ?_
  refine lv_if_lt (tgt := 9) hx hb dX9_can_1 (by decide) (fun c_1 => ?_) (fun c_1 => ?_)
  · refine lv_iconst (v := 0) hx hb dX9_can_9 (by decide) ?_
    exact gx_zret (w' := [(h0, .inr (9, [.ref a0, .ref a1, .ref a2, v3, v4, v5, v6, v7, v8, v9, v10, v11, v12, v13, v14, v15, v16, v17, v18, v19, v20, v21, .ref a22, v23, v24, v25, v26, v27, v28, v29, v30, v31, v32, v33, v34, v35, v36, v37, v38, v39, v40, v41, v42, v43, v44, v45, v46, v47, v48, v49, v50, v51])), (a0, .inl (cI, 3, .inl (fun j => nI (C j)))), (a1, .inl (cI, 9, .inl (fun j => nI (Mn j)))), (a2, .inl (cI, 108, .inl kd)), (a22, .inl (cI, 58, .inl nw))]) hx hb hr hlk hK hP hD hS (Nat.le_of_ble_eq_true rfl) (Nat.le_of_ble_eq_true rfl) dX9_can_10 rfl ⟨0, (Or.inl rfl), (by first | exact Or.inr ⟨rfl, gCE9_o (Or.inl c_1)⟩ | exact Or.inr ⟨rfl, gCE9_o (Or.inr c_1)⟩), rfl, rfl⟩
  · refine lv_iload_n hx hb dX9_can_4 rfl (lv_at hl 3 rfl) ?_
    refine lv_iconst (v := 5) hx hb dX9_can_5 (by decide) ?_
    refine lv_icmp_le (tgt := 11) hx hb dX9_can_6 (by decide) (fun c_2 => ?_) (fun c_2 => ?_)
    · obtain ⟨js, hjs, rfl⟩ := gy_leN (n := 5) (by decide) c_1 c_2
      obtain ⟨e1, e2, e3, e4, e5⟩ := hG ((js) % 3) (by omega)
      have hl : lv_has ls 6 [(0, .ref h0), (1, .int (nI pr)), (2, .int mode), (3, .int (nI js))] := hl
      refine lv_iload_n hx hb dX9_can_11 rfl (lv_at hl 3 rfl) ?_
      refine lv_iconst (v := 3) hx hb dX9_can_12 (by decide) ?_
      refine lv_irem hx hb dX9_can_13 (by decide) ?_
      refine gx_top (y := nI ((js) % 3)) (gy_rem (a := js) (b := 3) (by omega) (by decide)) ?_
      refine lv_istore (lv' := [(4, .int (nI ((js) % 3))), (0, .ref h0), (1, .int (nI pr)), (2, .int mode), (3, .int (nI js))]) hx hb dX9_can_14 hl (by decide) rfl (fun ls hl => ?_)
      refine lv_iload_n hx hb dX9_can_16 rfl (lv_at hl 4 rfl) ?_
      refine lv_iconst (v := 2) hx hb dX9_can_17 (by decide) ?_
      refine gy_le (a := js) (b := 2) (tgt := 56) hx hb (by omega) (by omega) dX9_can_18 (by decide) (fun c_3 => ?_) (fun c_3 => ?_)
      · refine lv_iload hx hb dX9_can_56 (lv_at hl 0 rfl) ?_
        refine lv_aload_n hx hb dX9_can_58 rfl (lv_at hl 1 rfl) ?_
        refine va_get (D := D) (ci := 9) (v := .ref a0) (C := RX9) (T := TX9) (N := 52) hx hb hts (fun _ h => List.mem_cons_of_mem _ (List.mem_append_left _ (List.mem_append_right _ h))) hown hK hP 0 rfl rfl 0 (by decide) (hts (.fieldLink RX9 7 "LitmusHallModel" "cores" "[I") (by decide +kernel)) (fun _ h9 => h9) rfl dX9_can_59 ?_
        refine lv_iload_n hx hb dX9_can_62 rfl (lv_at hl 2 rfl) ?_
        refine gy_ild (i := pr) hx hb hK hP 1 rfl (by omega) (by omega) dX9_can_63 ?_
        refine gx_top (y := nI (C pr)) rfl ?_
        have hC0 := hC pr (by omega)
        refine gy_ge (a := ((js) % 3)) (b := (C pr)) (tgt := 88) hx hb (by omega) (by omega) dX9_can_64 (by decide) (fun c_4 => ?_) (fun c_4 => ?_)
        · refine lv_iconst (v := 0) hx hb dX9_can_88 (by decide) ?_
          exact gx_zret (w' := [(h0, .inr (9, [.ref a0, .ref a1, .ref a2, v3, v4, v5, v6, v7, v8, v9, v10, v11, v12, v13, v14, v15, v16, v17, v18, v19, v20, v21, .ref a22, v23, v24, v25, v26, v27, v28, v29, v30, v31, v32, v33, v34, v35, v36, v37, v38, v39, v40, v41, v42, v43, v44, v45, v46, v47, v48, v49, v50, v51])), (a0, .inl (cI, 3, .inl (fun j => nI (C j)))), (a1, .inl (cI, 9, .inl (fun j => nI (Mn j)))), (a2, .inl (cI, 108, .inl kd)), (a22, .inl (cI, 58, .inl nw))]) hx hb hr hlk hK hP hD hS (Nat.le_of_ble_eq_true rfl) (Nat.le_of_ble_eq_true rfl) dX9_can_89 rfl ⟨0, (Or.inl rfl), (Or.inr ⟨rfl, fun h => by have h1 := ((gCE9_k hjs (by omega)).mp h).1; have h2 := ((gCE9_k hjs (by omega)).mp h).2.1; omega⟩), rfl, rfl⟩
        · refine lv_aload_n hx hb dX9_can_67 rfl (lv_at hl 1 rfl) ?_
          refine va_get (D := D) (ci := 9) (v := .ref a22) (C := RX9) (T := TX9) (N := 52) hx hb hts (fun _ h => List.mem_cons_of_mem _ (List.mem_append_left _ (List.mem_append_right _ h))) hown hK hP 0 rfl rfl 22 (by decide) (hts (.fieldLink RX9 75 "LitmusHallModel" "now" "[I") (by decide +kernel)) (fun _ h9 => h9) rfl dX9_can_68 ?_
          refine lv_iload hx hb dX9_can_71 (lv_at hl 0 rfl) ?_
          refine gy_ild (i := ((js) % 3)) hx hb hK hP 4 rfl (by omega) (by omega) dX9_can_73 ?_
          refine gx_top (y := nI (nx ((js) % 3))) e1 ?_
          refine lv_aload_n hx hb dX9_can_74 rfl (lv_at hl 1 rfl) ?_
          refine va_get (D := D) (ci := 9) (v := .ref a1) (C := RX9) (T := TX9) (N := 52) hx hb hts (fun _ h => List.mem_cons_of_mem _ (List.mem_append_left _ (List.mem_append_right _ h))) hown hK hP 0 rfl rfl 1 (by decide) (hts (.fieldLink RX9 13 "LitmusHallModel" "many" "[I") (by decide +kernel)) (fun _ h9 => h9) rfl dX9_can_75 ?_
          refine lv_iconst (v := 3) hx hb dX9_can_78 (by decide) ?_
          refine lv_iload_n hx hb dX9_can_79 rfl (lv_at hl 2 rfl) ?_
          refine lv_imul hx hb dX9_can_80 ?_
          refine gx_top (y := nI (3 * pr)) (pk_mul 3 pr) ?_
          refine lv_iload hx hb dX9_can_81 (lv_at hl 0 rfl) ?_
          refine lv_iadd hx hb dX9_can_83 ?_
          refine gx_top (y := nI ((3 * pr) + ((js) % 3))) (nI_add (3 * pr) ((js) % 3)) ?_
          refine gy_ild (i := ((3 * pr) + ((js) % 3))) hx hb hK hP 2 rfl (by omega) (by omega) dX9_can_84 ?_
          refine gx_top (y := nI (Mn ((3 * pr) + ((js) % 3)))) rfl ?_
          have hM0 := hM9 ((3 * pr) + ((js) % 3)) (by omega)
          refine gy_lt (a := (nx ((js) % 3))) (b := (Mn ((3 * pr) + ((js) % 3)))) (tgt := 90) hx hb (by omega) (by omega) dX9_can_85 (by decide) (fun c_5 => ?_) (fun c_5 => ?_)
          · have hgc : gCan9 C Mn nx rz pr mode (nI js) := Or.inr ⟨(js) % 3, by omega, by omega, by congr 1; omega, by omega⟩
            refine lv_aload_n hx hb dX9_can_90 rfl (lv_at hl 1 rfl) ?_
            refine va_get (D := D) (ci := 9) (v := .ref a2) (C := RX9) (T := TX9) (N := 52) hx hb hts (fun _ h => List.mem_cons_of_mem _ (List.mem_append_left _ (List.mem_append_right _ h))) hown hK hP 0 rfl rfl 2 (by decide) (hts (.fieldLink RX9 16 "LitmusHallModel" "kind" "[I") (by decide +kernel)) (fun _ h9 => h9) rfl dX9_can_91 ?_
            refine lv_bipush (v := 36) hx hb dX9_can_94 (by decide) ?_
            refine lv_iload_n hx hb dX9_can_96 rfl (lv_at hl 2 rfl) ?_
            refine lv_imul hx hb dX9_can_97 ?_
            refine gx_top (y := nI (36 * pr)) (pk_mul 36 pr) ?_
            refine lv_bipush (v := 12) hx hb dX9_can_98 (by decide) ?_
            refine lv_iload hx hb dX9_can_100 (lv_at hl 0 rfl) ?_
            refine lv_imul hx hb dX9_can_102 ?_
            refine gx_top (y := nI (12 * ((js) % 3))) (pk_mul 12 ((js) % 3)) ?_
            refine lv_iadd hx hb dX9_can_103 ?_
            refine gx_top (y := nI ((36 * pr) + (12 * ((js) % 3)))) (nI_add (36 * pr) (12 * ((js) % 3))) ?_
            refine lv_aload_n hx hb dX9_can_104 rfl (lv_at hl 1 rfl) ?_
            refine va_get (D := D) (ci := 9) (v := .ref a22) (C := RX9) (T := TX9) (N := 52) hx hb hts (fun _ h => List.mem_cons_of_mem _ (List.mem_append_left _ (List.mem_append_right _ h))) hown hK hP 0 rfl rfl 22 (by decide) (hts (.fieldLink RX9 75 "LitmusHallModel" "now" "[I") (by decide +kernel)) (fun _ h9 => h9) rfl dX9_can_105 ?_
            refine lv_iload hx hb dX9_can_108 (lv_at hl 0 rfl) ?_
            refine gy_ild (i := ((js) % 3)) hx hb hK hP 4 rfl (by omega) (by omega) dX9_can_110 ?_
            refine gx_top (y := nI (nx ((js) % 3))) e1 ?_
            refine lv_iadd hx hb dX9_can_111 ?_
            refine gx_top (y := nI (((36 * pr) + (12 * ((js) % 3))) + (nx ((js) % 3)))) (nI_add ((36 * pr) + (12 * ((js) % 3))) (nx ((js) % 3))) ?_
            refine gy_ild (i := (((36 * pr) + (12 * ((js) % 3))) + (nx ((js) % 3)))) hx hb hK hP 3 rfl (by omega) (by omega) dX9_can_112 ?_
            refine lv_istore (lv' := [(5, .int (kd (((36 * pr) + (12 * ((js) % 3))) + (nx ((js) % 3))))), (4, .int (nI ((js) % 3))), (0, .ref h0), (1, .int (nI pr)), (2, .int mode), (3, .int (nI js))]) hx hb dX9_can_113 hl (by decide) rfl (fun ls hl => ?_)
            refine lv_iload hx hb dX9_can_115 (lv_at hl 0 rfl) ?_
            refine lv_iconst (v := 4) hx hb dX9_can_117 (by decide) ?_
            refine lv_icmp_eq (tgt := 127) hx hb dX9_can_118 (by decide) (fun c_6 => ?_) (fun c_6 => ?_)
            · refine lv_iload hx hb dX9_can_127 (lv_at hl 0 rfl) ?_
              refine lv_bipush (v := 8) hx hb dX9_can_129 (by decide) ?_
              refine lv_icmp_eq (tgt := 147) hx hb dX9_can_131 (by decide) (fun c_7 => ?_) (fun c_7 => ?_)
              · refine lv_iconst (v := 1) hx hb dX9_can_147 (by decide) ?_
                refine lv_goto (tgt := 152) hx hb dX9_can_148 (by decide) ?_
                exact gx_zret (w' := [(h0, .inr (9, [.ref a0, .ref a1, .ref a2, v3, v4, v5, v6, v7, v8, v9, v10, v11, v12, v13, v14, v15, v16, v17, v18, v19, v20, v21, .ref a22, v23, v24, v25, v26, v27, v28, v29, v30, v31, v32, v33, v34, v35, v36, v37, v38, v39, v40, v41, v42, v43, v44, v45, v46, v47, v48, v49, v50, v51])), (a0, .inl (cI, 3, .inl (fun j => nI (C j)))), (a1, .inl (cI, 9, .inl (fun j => nI (Mn j)))), (a2, .inl (cI, 108, .inl kd)), (a22, .inl (cI, 58, .inl nw))]) hx hb hr hlk hK hP hD hS (Nat.le_of_ble_eq_true rfl) (Nat.le_of_ble_eq_true rfl) dX9_can_152 rfl ⟨1, (by first | exact Or.inl rfl | exact Or.inr ⟨rfl, hgc⟩), (by first | exact Or.inl ⟨rfl, (gCE9_k hjs (by omega)).mpr ⟨by omega, by omega, Or.inr (Or.inl ⟨c_6, c_7⟩)⟩⟩ | exact Or.inl ⟨rfl, (gCE9_k hjs (by omega)).mpr ⟨by omega, by omega, Or.inr (Or.inr c_7)⟩⟩ | exact Or.inl ⟨rfl, (gCE9_k hjs (by omega)).mpr ⟨by omega, by omega, Or.inl (by omega)⟩⟩ | exact Or.inr ⟨rfl, fun h => ((gCE9_k hjs (by omega)).mp h).2.2.elim (fun q => by omega) (fun q => q.elim (fun q => by first | exact q.1 c_5 | exact c_5 q.2) (fun q => c_6 q))⟩), rfl, rfl⟩
              · refine lv_aload_n hx hb dX9_can_134 rfl (lv_at hl 2 rfl) ?_
                refine va_get (D := D) (ci := 9) (v := .ref a22) (C := RX9) (T := TX9) (N := 52) hx hb hts (fun _ h => List.mem_cons_of_mem _ (List.mem_append_left _ (List.mem_append_right _ h))) hown hK hP 0 rfl rfl 22 (by decide) (hts (.fieldLink RX9 75 "LitmusHallModel" "now" "[I") (by decide +kernel)) (fun _ h9 => h9) rfl dX9_can_135 ?_
                refine lv_iload hx hb dX9_can_138 (lv_at hl 1 rfl) ?_
                refine gx_goi (wc := []) (wr := [(h0, .inr (9, [.ref a0, .ref a1, .ref a2, v3, v4, v5, v6, v7, v8, v9, v10, v11, v12, v13, v14, v15, v16, v17, v18, v19, v20, v21, .ref a22, v23, v24, v25, v26, v27, v28, v29, v30, v31, v32, v33, v34, v35, v36, v37, v38, v39, v40, v41, v42, v43, v44, v45, v46, v47, v48, v49, v50, v51])), (a0, .inl (cI, 3, .inl (fun j => nI (C j)))), (a1, .inl (cI, 9, .inl (fun j => nI (Mn j)))), (a2, .inl (cI, 108, .inl kd)), (a22, .inl (cI, 58, .inl nw))]) (va_runS (As := [.int (nI ((js) % 3))]) (rest := [.ref a22]) ⟨hx, hb, hml, hown, hts⟩ (c_rowAt9 l D cI cB cZ ((js) % 3) _) (va_cwS 1 hts gP_x_can9__c_rowAt9 rfl rfl rfl (by decide +kernel) ⟨Nat.le_of_ble_eq_true rfl, Nat.le_of_ble_eq_true rfl⟩) (gx_preS hK gN.nil hP hD [] rfl rfl) rfl rfl hl.1 rfl (lv_room (Nat.le_of_ble_eq_true rfl)) dX9_can_140 ⟨Nat.le_of_ble_eq_true rfl, Nat.le_of_ble_eq_true rfl⟩) hP hD hS hA [] [0, 1, 2, 3, 4] rfl rfl rfl (by decide) (fun r1 w1 H locs hp hP hD hS => ?_)
                obtain ⟨h9, rfl⟩ := hp
                have h9 := h9.symm
                subst h9
                refine gy_ild (i := (16 + (13 * ((js) % 3)))) hx hb hK hP 4 rfl (by omega) (by omega) dX9_can_143 ?_
                refine gx_top (y := nI (rz ((js) % 3))) e2 ?_
                refine lv_if_ne (tgt := 151) hx hb dX9_can_144 (by decide) (fun c_8i => ?_) (fun c_8i => ?_)
                · have c_8 : rz ((js) % 3) ≠ 0 := fun q9 => c_8i ((nI_eq (a := rz ((js) % 3)) (b := 0) (by omega) (by decide)).mpr q9)
                  refine lv_iconst (v := 0) hx hb dX9_can_151 (by decide) ?_
                  have hP : va_P D vwCl [(h0, .inr (9, [.ref a0, .ref a1, .ref a2, v3, v4, v5, v6, v7, v8, v9, v10, v11, v12, v13, v14, v15, v16, v17, v18, v19, v20, v21, .ref a22, v23, v24, v25, v26, v27, v28, v29, v30, v31, v32, v33, v34, v35, v36, v37, v38, v39, v40, v41, v42, v43, v44, v45, v46, v47, v48, v49, v50, v51])), (a0, .inl (cI, 3, .inl (fun j => nI (C j)))), (a1, .inl (cI, 9, .inl (fun j => nI (Mn j)))), (a2, .inl (cI, 108, .inl kd)), (a22, .inl (cI, 58, .inl nw))] H := hP
                  have hD : va_D A [(h0, .inr (9, [.ref a0, .ref a1, .ref a2, v3, v4, v5, v6, v7, v8, v9, v10, v11, v12, v13, v14, v15, v16, v17, v18, v19, v20, v21, .ref a22, v23, v24, v25, v26, v27, v28, v29, v30, v31, v32, v33, v34, v35, v36, v37, v38, v39, v40, v41, v42, v43, v44, v45, v46, v47, v48, v49, v50, v51])), (a0, .inl (cI, 3, .inl (fun j => nI (C j)))), (a1, .inl (cI, 9, .inl (fun j => nI (Mn j)))), (a2, .inl (cI, 108, .inl kd)), (a22, .inl (cI, 58, .inl nw))] := hD
                  exact gx_zret (w' := [(h0, .inr (9, [.ref a0, .ref a1, .ref a2, v3, v4, v5, v6, v7, v8, v9, v10, v11, v12, v13, v14, v15, v16, v17, v18, v19, v20, v21, .ref a22, v23, v24, v25, v26, v27, v28, v29, v30, v31, v32, v33, v34, v35, v36, v37, v38, v39, v40, v41, v42, v43, v44, v45, v46, v47, v48, v49, v50, v51])), (a0, .inl (cI, 3, .inl (fun j => nI (C j)))), (a1, .inl (cI, 9, .inl (fun j => nI (Mn j)))), (a2, .inl (cI, 108, .inl kd)), (a22, .inl (cI, 58, .inl nw))]) hx hb hr hlk hK hP hD hS (Nat.le_of_ble_eq_true rfl) (Nat.le_of_ble_eq_true rfl) dX9_can_152 rfl ⟨0, (by first | exact Or.inl rfl | exact Or.inr ⟨rfl, hgc⟩), (by first | exact Or.inl ⟨rfl, (gCE9_k hjs (by omega)).mpr ⟨by omega, by omega, Or.inr (Or.inl ⟨c_7, c_8⟩)⟩⟩ | exact Or.inl ⟨rfl, (gCE9_k hjs (by omega)).mpr ⟨by omega, by omega, Or.inr (Or.inr c_8)⟩⟩ | exact Or.inl ⟨rfl, (gCE9_k hjs (by omega)).mpr ⟨by omega, by omega, Or.inl (by omega)⟩⟩ | exact Or.inr ⟨rfl, fun h => ((gCE9_k hjs (by omega)).mp h).2.2.elim (fun q => by omega) (fun q => q.elim (fun q => by first | exact q.1 c_6 | exact c_6 q.2) (fun q => c_7 q))⟩), rfl, rfl⟩
                · have c_8 : rz ((js) % 3) = 0 := (nI_eq (a := rz ((js) % 3)) (b := 0) (by omega) (by decide)).mp c_8i
                  refine lv_iconst (v := 1) hx hb dX9_can_147 (by decide) ?_
                  refine lv_goto (tgt := 152) hx hb dX9_can_148 (by decide) ?_
                  have hP : va_P D vwCl [(h0, .inr (9, [.ref a0, .ref a1, .ref a2, v3, v4, v5, v6, v7, v8, v9, v10, v11, v12, v13, v14, v15, v16, v17, v18, v19, v20, v21, .ref a22, v23, v24, v25, v26, v27, v28, v29, v30, v31, v32, v33, v34, v35, v36, v37, v38, v39, v40, v41, v42, v43, v44, v45, v46, v47, v48, v49, v50, v51])), (a0, .inl (cI, 3, .inl (fun j => nI (C j)))), (a1, .inl (cI, 9, .inl (fun j => nI (Mn j)))), (a2, .inl (cI, 108, .inl kd)), (a22, .inl (cI, 58, .inl nw))] H := hP
                  have hD : va_D A [(h0, .inr (9, [.ref a0, .ref a1, .ref a2, v3, v4, v5, v6, v7, v8, v9, v10, v11, v12, v13, v14, v15, v16, v17, v18, v19, v20, v21, .ref a22, v23, v24, v25, v26, v27, v28, v29, v30, v31, v32, v33, v34, v35, v36, v37, v38, v39, v40, v41, v42, v43, v44, v45, v46, v47, v48, v49, v50, v51])), (a0, .inl (cI, 3, .inl (fun j => nI (C j)))), (a1, .inl (cI, 9, .inl (fun j => nI (Mn j)))), (a2, .inl (cI, 108, .inl kd)), (a22, .inl (cI, 58, .inl nw))] := hD
                  exact gx_zret (w' := [(h0, .inr (9, [.ref a0, .ref a1, .ref a2, v3, v4, v5, v6, v7, v8, v9, v10, v11, v12, v13, v14, v15, v16, v17, v18, v19, v20, v21, .ref a22, v23, v24, v25, v26, v27, v28, v29, v30, v31, v32, v33, v34, v35, v36, v37, v38, v39, v40, v41, v42, v43, v44, v45, v46, v47, v48, v49, v50, v51])), (a0, .inl (cI, 3, .inl (fun j => nI (C j)))), (a1, .inl (cI, 9, .inl (fun j => nI (Mn j)))), (a2, .inl (cI, 108, .inl kd)), (a22, .inl (cI, 58, .inl nw))]) hx hb hr hlk hK hP hD hS (Nat.le_of_ble_eq_true rfl) (Nat.le_of_ble_eq_true rfl) dX9_can_152 rfl ⟨1, (by first | exact Or.inl rfl | exact Or.inr ⟨rfl, hgc⟩), (by first | exact Or.inl ⟨rfl, (gCE9_k hjs (by omega)).mpr ⟨by omega, by omega, Or.inr (Or.inl ⟨c_7, c_8⟩)⟩⟩ | exact Or.inl ⟨rfl, (gCE9_k hjs (by omega)).mpr ⟨by omega, by omega, Or.inr (Or.inr c_8)⟩⟩ | exact Or.inl ⟨rfl, (gCE9_k hjs (by omega)).mpr ⟨by omega, by omega, Or.inl (by omega)⟩⟩ | exact Or.inr ⟨rfl, fun h => ((gCE9_k hjs (by omega)).mp h).2.2.elim (fun q => by omega) (fun q => q.elim (fun q => by first | exact q.1 c_6 | exact c_6 q.2) (fun q => c_7 q))⟩), rfl, rfl⟩
            · refine lv_iload hx hb dX9_can_121 (lv_at hl 0 rfl) ?_
              refine lv_iconst (v := 5) hx hb dX9_can_123 (by decide) ?_
              refine lv_icmp_lt (tgt := 147) hx hb dX9_can_124 (by decide) (fun c_9 => ?_) (fun c_9 => ?_)
              · refine lv_iconst (v := 1) hx hb dX9_can_147 (by decide) ?_
                refine lv_goto (tgt := 152) hx hb dX9_can_148 (by decide) ?_
                exact gx_zret (w' := [(h0, .inr (9, [.ref a0, .ref a1, .ref a2, v3, v4, v5, v6, v7, v8, v9, v10, v11, v12, v13, v14, v15, v16, v17, v18, v19, v20, v21, .ref a22, v23, v24, v25, v26, v27, v28, v29, v30, v31, v32, v33, v34, v35, v36, v37, v38, v39, v40, v41, v42, v43, v44, v45, v46, v47, v48, v49, v50, v51])), (a0, .inl (cI, 3, .inl (fun j => nI (C j)))), (a1, .inl (cI, 9, .inl (fun j => nI (Mn j)))), (a2, .inl (cI, 108, .inl kd)), (a22, .inl (cI, 58, .inl nw))]) hx hb hr hlk hK hP hD hS (Nat.le_of_ble_eq_true rfl) (Nat.le_of_ble_eq_true rfl) dX9_can_152 rfl ⟨1, (by first | exact Or.inl rfl | exact Or.inr ⟨rfl, hgc⟩), (by first | exact Or.inl ⟨rfl, (gCE9_k hjs (by omega)).mpr ⟨by omega, by omega, Or.inr (Or.inl ⟨c_6, c_9⟩)⟩⟩ | exact Or.inl ⟨rfl, (gCE9_k hjs (by omega)).mpr ⟨by omega, by omega, Or.inr (Or.inr c_9)⟩⟩ | exact Or.inl ⟨rfl, (gCE9_k hjs (by omega)).mpr ⟨by omega, by omega, Or.inl (by omega)⟩⟩ | exact Or.inr ⟨rfl, fun h => ((gCE9_k hjs (by omega)).mp h).2.2.elim (fun q => by omega) (fun q => q.elim (fun q => by first | exact q.1 c_5 | exact c_5 q.2) (fun q => c_6 q))⟩), rfl, rfl⟩
              · refine lv_iload hx hb dX9_can_127 (lv_at hl 0 rfl) ?_
                refine lv_bipush (v := 8) hx hb dX9_can_129 (by decide) ?_
                refine lv_icmp_eq (tgt := 147) hx hb dX9_can_131 (by decide) (fun c_10 => ?_) (fun c_10 => ?_)
                · refine lv_iconst (v := 1) hx hb dX9_can_147 (by decide) ?_
                  refine lv_goto (tgt := 152) hx hb dX9_can_148 (by decide) ?_
                  exact gx_zret (w' := [(h0, .inr (9, [.ref a0, .ref a1, .ref a2, v3, v4, v5, v6, v7, v8, v9, v10, v11, v12, v13, v14, v15, v16, v17, v18, v19, v20, v21, .ref a22, v23, v24, v25, v26, v27, v28, v29, v30, v31, v32, v33, v34, v35, v36, v37, v38, v39, v40, v41, v42, v43, v44, v45, v46, v47, v48, v49, v50, v51])), (a0, .inl (cI, 3, .inl (fun j => nI (C j)))), (a1, .inl (cI, 9, .inl (fun j => nI (Mn j)))), (a2, .inl (cI, 108, .inl kd)), (a22, .inl (cI, 58, .inl nw))]) hx hb hr hlk hK hP hD hS (Nat.le_of_ble_eq_true rfl) (Nat.le_of_ble_eq_true rfl) dX9_can_152 rfl ⟨1, (by first | exact Or.inl rfl | exact Or.inr ⟨rfl, hgc⟩), (by first | exact Or.inl ⟨rfl, (gCE9_k hjs (by omega)).mpr ⟨by omega, by omega, Or.inr (Or.inl ⟨c_9, c_10⟩)⟩⟩ | exact Or.inl ⟨rfl, (gCE9_k hjs (by omega)).mpr ⟨by omega, by omega, Or.inr (Or.inr c_10)⟩⟩ | exact Or.inl ⟨rfl, (gCE9_k hjs (by omega)).mpr ⟨by omega, by omega, Or.inl (by omega)⟩⟩ | exact Or.inr ⟨rfl, fun h => ((gCE9_k hjs (by omega)).mp h).2.2.elim (fun q => by omega) (fun q => q.elim (fun q => by first | exact q.1 c_6 | exact c_6 q.2) (fun q => c_9 q))⟩), rfl, rfl⟩
                · refine lv_aload_n hx hb dX9_can_134 rfl (lv_at hl 2 rfl) ?_
                  refine va_get (D := D) (ci := 9) (v := .ref a22) (C := RX9) (T := TX9) (N := 52) hx hb hts (fun _ h => List.mem_cons_of_mem _ (List.mem_append_left _ (List.mem_append_right _ h))) hown hK hP 0 rfl rfl 22 (by decide) (hts (.fieldLink RX9 75 "LitmusHallModel" "now" "[I") (by decide +kernel)) (fun _ h9 => h9) rfl dX9_can_135 ?_
                  refine lv_iload hx hb dX9_can_138 (lv_at hl 1 rfl) ?_
                  refine gx_goi (wc := []) (wr := [(h0, .inr (9, [.ref a0, .ref a1, .ref a2, v3, v4, v5, v6, v7, v8, v9, v10, v11, v12, v13, v14, v15, v16, v17, v18, v19, v20, v21, .ref a22, v23, v24, v25, v26, v27, v28, v29, v30, v31, v32, v33, v34, v35, v36, v37, v38, v39, v40, v41, v42, v43, v44, v45, v46, v47, v48, v49, v50, v51])), (a0, .inl (cI, 3, .inl (fun j => nI (C j)))), (a1, .inl (cI, 9, .inl (fun j => nI (Mn j)))), (a2, .inl (cI, 108, .inl kd)), (a22, .inl (cI, 58, .inl nw))]) (va_runS (As := [.int (nI ((js) % 3))]) (rest := [.ref a22]) ⟨hx, hb, hml, hown, hts⟩ (c_rowAt9 l D cI cB cZ ((js) % 3) _) (va_cwS 1 hts gP_x_can9__c_rowAt9 rfl rfl rfl (by decide +kernel) ⟨Nat.le_of_ble_eq_true rfl, Nat.le_of_ble_eq_true rfl⟩) (gx_preS hK gN.nil hP hD [] rfl rfl) rfl rfl hl.1 rfl (lv_room (Nat.le_of_ble_eq_true rfl)) dX9_can_140 ⟨Nat.le_of_ble_eq_true rfl, Nat.le_of_ble_eq_true rfl⟩) hP hD hS hA [] [0, 1, 2, 3, 4] rfl rfl rfl (by decide) (fun r1 w1 H locs hp hP hD hS => ?_)
                  obtain ⟨h9, rfl⟩ := hp
                  have h9 := h9.symm
                  subst h9
                  refine gy_ild (i := (16 + (13 * ((js) % 3)))) hx hb hK hP 4 rfl (by omega) (by omega) dX9_can_143 ?_
                  refine gx_top (y := nI (rz ((js) % 3))) e2 ?_
                  refine lv_if_ne (tgt := 151) hx hb dX9_can_144 (by decide) (fun c_11i => ?_) (fun c_11i => ?_)
                  · have c_11 : rz ((js) % 3) ≠ 0 := fun q9 => c_11i ((nI_eq (a := rz ((js) % 3)) (b := 0) (by omega) (by decide)).mpr q9)
                    refine lv_iconst (v := 0) hx hb dX9_can_151 (by decide) ?_
                    have hP : va_P D vwCl [(h0, .inr (9, [.ref a0, .ref a1, .ref a2, v3, v4, v5, v6, v7, v8, v9, v10, v11, v12, v13, v14, v15, v16, v17, v18, v19, v20, v21, .ref a22, v23, v24, v25, v26, v27, v28, v29, v30, v31, v32, v33, v34, v35, v36, v37, v38, v39, v40, v41, v42, v43, v44, v45, v46, v47, v48, v49, v50, v51])), (a0, .inl (cI, 3, .inl (fun j => nI (C j)))), (a1, .inl (cI, 9, .inl (fun j => nI (Mn j)))), (a2, .inl (cI, 108, .inl kd)), (a22, .inl (cI, 58, .inl nw))] H := hP
                    have hD : va_D A [(h0, .inr (9, [.ref a0, .ref a1, .ref a2, v3, v4, v5, v6, v7, v8, v9, v10, v11, v12, v13, v14, v15, v16, v17, v18, v19, v20, v21, .ref a22, v23, v24, v25, v26, v27, v28, v29, v30, v31, v32, v33, v34, v35, v36, v37, v38, v39, v40, v41, v42, v43, v44, v45, v46, v47, v48, v49, v50, v51])), (a0, .inl (cI, 3, .inl (fun j => nI (C j)))), (a1, .inl (cI, 9, .inl (fun j => nI (Mn j)))), (a2, .inl (cI, 108, .inl kd)), (a22, .inl (cI, 58, .inl nw))] := hD
                    exact gx_zret (w' := [(h0, .inr (9, [.ref a0, .ref a1, .ref a2, v3, v4, v5, v6, v7, v8, v9, v10, v11, v12, v13, v14, v15, v16, v17, v18, v19, v20, v21, .ref a22, v23, v24, v25, v26, v27, v28, v29, v30, v31, v32, v33, v34, v35, v36, v37, v38, v39, v40, v41, v42, v43, v44, v45, v46, v47, v48, v49, v50, v51])), (a0, .inl (cI, 3, .inl (fun j => nI (C j)))), (a1, .inl (cI, 9, .inl (fun j => nI (Mn j)))), (a2, .inl (cI, 108, .inl kd)), (a22, .inl (cI, 58, .inl nw))]) hx hb hr hlk hK hP hD hS (Nat.le_of_ble_eq_true rfl) (Nat.le_of_ble_eq_true rfl) dX9_can_152 rfl ⟨0, (by first | exact Or.inl rfl | exact Or.inr ⟨rfl, hgc⟩), (by first | exact Or.inl ⟨rfl, (gCE9_k hjs (by omega)).mpr ⟨by omega, by omega, Or.inr (Or.inl ⟨c_10, c_11⟩)⟩⟩ | exact Or.inl ⟨rfl, (gCE9_k hjs (by omega)).mpr ⟨by omega, by omega, Or.inr (Or.inr c_11)⟩⟩ | exact Or.inl ⟨rfl, (gCE9_k hjs (by omega)).mpr ⟨by omega, by omega, Or.inl (by omega)⟩⟩ | exact Or.inr ⟨rfl, fun h => ((gCE9_k hjs (by omega)).mp h).2.2.elim (fun q => by omega) (fun q => q.elim (fun q => by first | exact q.1 c_9 | exact c_9 q.2) (fun q => c_10 q))⟩), rfl, rfl⟩
                  · have c_11 : rz ((js) % 3) = 0 := (nI_eq (a := rz ((js) % 3)) (b := 0) (by omega) (by decide)).mp c_11i
                    refine lv_iconst (v := 1) hx hb dX9_can_147 (by decide) ?_
                    refine lv_goto (tgt := 152) hx hb dX9_can_148 (by decide) ?_
                    have hP : va_P D vwCl [(h0, .inr (9, [.ref a0, .ref a1, .ref a2, v3, v4, v5, v6, v7, v8, v9, v10, v11, v12, v13, v14, v15, v16, v17, v18, v19, v20, v21, .ref a22, v23, v24, v25, v26, v27, v28, v29, v30, v31, v32, v33, v34, v35, v36, v37, v38, v39, v40, v41, v42, v43, v44, v45, v46, v47, v48, v49, v50, v51])), (a0, .inl (cI, 3, .inl (fun j => nI (C j)))), (a1, .inl (cI, 9, .inl (fun j => nI (Mn j)))), (a2, .inl (cI, 108, .inl kd)), (a22, .inl (cI, 58, .inl nw))] H := hP
                    have hD : va_D A [(h0, .inr (9, [.ref a0, .ref a1, .ref a2, v3, v4, v5, v6, v7, v8, v9, v10, v11, v12, v13, v14, v15, v16, v17, v18, v19, v20, v21, .ref a22, v23, v24, v25, v26, v27, v28, v29, v30, v31, v32, v33, v34, v35, v36, v37, v38, v39, v40, v41, v42, v43, v44, v45, v46, v47, v48, v49, v50, v51])), (a0, .inl (cI, 3, .inl (fun j => nI (C j)))), (a1, .inl (cI, 9, .inl (fun j => nI (Mn j)))), (a2, .inl (cI, 108, .inl kd)), (a22, .inl (cI, 58, .inl nw))] := hD
                    exact gx_zret (w' := [(h0, .inr (9, [.ref a0, .ref a1, .ref a2, v3, v4, v5, v6, v7, v8, v9, v10, v11, v12, v13, v14, v15, v16, v17, v18, v19, v20, v21, .ref a22, v23, v24, v25, v26, v27, v28, v29, v30, v31, v32, v33, v34, v35, v36, v37, v38, v39, v40, v41, v42, v43, v44, v45, v46, v47, v48, v49, v50, v51])), (a0, .inl (cI, 3, .inl (fun j => nI (C j)))), (a1, .inl (cI, 9, .inl (fun j => nI (Mn j)))), (a2, .inl (cI, 108, .inl kd)), (a22, .inl (cI, 58, .inl nw))]) hx hb hr hlk hK hP hD hS (Nat.le_of_ble_eq_true rfl) (Nat.le_of_ble_eq_true rfl) dX9_can_152 rfl ⟨1, (by first | exact Or.inl rfl | exact Or.inr ⟨rfl, hgc⟩), (by first | exact Or.inl ⟨rfl, (gCE9_k hjs (by omega)).mpr ⟨by omega, by omega, Or.inr (Or.inl ⟨c_10, c_11⟩)⟩⟩ | exact Or.inl ⟨rfl, (gCE9_k hjs (by omega)).mpr ⟨by omega, by omega, Or.inr (Or.inr c_11)⟩⟩ | exact Or.inl ⟨rfl, (gCE9_k hjs (by omega)).mpr ⟨by omega, by omega, Or.inl (by omega)⟩⟩ | exact Or.inr ⟨rfl, fun h => ((gCE9_k hjs (by omega)).mp h).2.2.elim (fun q => by omega) (fun q => q.elim (fun q => by first | exact q.1 c_9 | exact c_9 q.2) (fun q => c_10 q))⟩), rfl, rfl⟩
          · refine lv_iconst (v := 0) hx hb dX9_can_88 (by decide) ?_
            exact gx_zret (w' := [(h0, .inr (9, [.ref a0, .ref a1, .ref a2, v3, v4, v5, v6, v7, v8, v9, v10, v11, v12, v13, v14, v15, v16, v17, v18, v19, v20, v21, .ref a22, v23, v24, v25, v26, v27, v28, v29, v30, v31, v32, v33, v34, v35, v36, v37, v38, v39, v40, v41, v42, v43, v44, v45, v46, v47, v48, v49, v50, v51])), (a0, .inl (cI, 3, .inl (fun j => nI (C j)))), (a1, .inl (cI, 9, .inl (fun j => nI (Mn j)))), (a2, .inl (cI, 108, .inl kd)), (a22, .inl (cI, 58, .inl nw))]) hx hb hr hlk hK hP hD hS (Nat.le_of_ble_eq_true rfl) (Nat.le_of_ble_eq_true rfl) dX9_can_89 rfl ⟨0, (Or.inl rfl), (Or.inr ⟨rfl, fun h => by have h1 := ((gCE9_k hjs (by omega)).mp h).1; have h2 := ((gCE9_k hjs (by omega)).mp h).2.1; omega⟩), rfl, rfl⟩
      · refine lv_iload_n hx hb dX9_can_21 rfl (lv_at hl 3 rfl) ?_
        refine lv_iconst (v := 1) hx hb dX9_can_22 (by decide) ?_
        have hjs3 := c_3
        refine lv_icmp_ne (tgt := 54) hx hb dX9_can_23 (by decide) (fun c_12 => ?_) (fun c_12 => ?_)
        · refine lv_iconst (v := 0) hx hb dX9_can_54 (by decide) ?_
          exact gx_zret (w' := [(h0, .inr (9, [.ref a0, .ref a1, .ref a2, v3, v4, v5, v6, v7, v8, v9, v10, v11, v12, v13, v14, v15, v16, v17, v18, v19, v20, v21, .ref a22, v23, v24, v25, v26, v27, v28, v29, v30, v31, v32, v33, v34, v35, v36, v37, v38, v39, v40, v41, v42, v43, v44, v45, v46, v47, v48, v49, v50, v51])), (a0, .inl (cI, 3, .inl (fun j => nI (C j)))), (a1, .inl (cI, 9, .inl (fun j => nI (Mn j)))), (a2, .inl (cI, 108, .inl kd)), (a22, .inl (cI, 58, .inl nw))]) hx hb hr hlk hK hP hD hS (Nat.le_of_ble_eq_true rfl) (Nat.le_of_ble_eq_true rfl) dX9_can_55 rfl ⟨0, (by first | exact Or.inl rfl | exact Or.inr ⟨rfl, hgc⟩), (by first | exact Or.inl ⟨rfl, hge⟩ | exact Or.inr ⟨rfl, fun h => c_12 ((gCE9_g hjs (by omega)).mp h).2.2⟩ | exact Or.inr ⟨rfl, fun h => by have h1 := ((gCE9_g hjs (by omega)).mp h).1; have h2 := ((gCE9_g hjs (by omega)).mp h).2.1; omega⟩), rfl, rfl⟩
        · refine lv_iload hx hb dX9_can_26 (lv_at hl 0 rfl) ?_
          refine lv_aload_n hx hb dX9_can_28 rfl (lv_at hl 1 rfl) ?_
          refine va_get (D := D) (ci := 9) (v := .ref a0) (C := RX9) (T := TX9) (N := 52) hx hb hts (fun _ h => List.mem_cons_of_mem _ (List.mem_append_left _ (List.mem_append_right _ h))) hown hK hP 0 rfl rfl 0 (by decide) (hts (.fieldLink RX9 7 "LitmusHallModel" "cores" "[I") (by decide +kernel)) (fun _ h9 => h9) rfl dX9_can_29 ?_
          refine lv_iload_n hx hb dX9_can_32 rfl (lv_at hl 2 rfl) ?_
          refine gy_ild (i := pr) hx hb hK hP 1 rfl (by omega) (by omega) dX9_can_33 ?_
          refine gx_top (y := nI (C pr)) rfl ?_
          have hC0 := hC pr (by omega)
          refine gy_ge (a := ((js) % 3)) (b := (C pr)) (tgt := 54) hx hb (by omega) (by omega) dX9_can_34 (by decide) (fun c_13 => ?_) (fun c_13 => ?_)
          · refine lv_iconst (v := 0) hx hb dX9_can_54 (by decide) ?_
            exact gx_zret (w' := [(h0, .inr (9, [.ref a0, .ref a1, .ref a2, v3, v4, v5, v6, v7, v8, v9, v10, v11, v12, v13, v14, v15, v16, v17, v18, v19, v20, v21, .ref a22, v23, v24, v25, v26, v27, v28, v29, v30, v31, v32, v33, v34, v35, v36, v37, v38, v39, v40, v41, v42, v43, v44, v45, v46, v47, v48, v49, v50, v51])), (a0, .inl (cI, 3, .inl (fun j => nI (C j)))), (a1, .inl (cI, 9, .inl (fun j => nI (Mn j)))), (a2, .inl (cI, 108, .inl kd)), (a22, .inl (cI, 58, .inl nw))]) hx hb hr hlk hK hP hD hS (Nat.le_of_ble_eq_true rfl) (Nat.le_of_ble_eq_true rfl) dX9_can_55 rfl ⟨0, (by first | exact Or.inl rfl | exact Or.inr ⟨rfl, hgc⟩), (by first | exact Or.inl ⟨rfl, hge⟩ | exact Or.inr ⟨rfl, fun h => c_13 ((gCE9_g hjs (by omega)).mp h).2.2⟩ | exact Or.inr ⟨rfl, fun h => by have h1 := ((gCE9_g hjs (by omega)).mp h).1; have h2 := ((gCE9_g hjs (by omega)).mp h).2.1; omega⟩), rfl, rfl⟩
          · refine lv_aload_n hx hb dX9_can_37 rfl (lv_at hl 1 rfl) ?_
            refine va_get (D := D) (ci := 9) (v := .ref a22) (C := RX9) (T := TX9) (N := 52) hx hb hts (fun _ h => List.mem_cons_of_mem _ (List.mem_append_left _ (List.mem_append_right _ h))) hown hK hP 0 rfl rfl 22 (by decide) (hts (.fieldLink RX9 75 "LitmusHallModel" "now" "[I") (by decide +kernel)) (fun _ h9 => h9) rfl dX9_can_38 ?_
            refine lv_iload hx hb dX9_can_41 (lv_at hl 0 rfl) ?_
            refine gx_goi (wc := []) (wr := [(h0, .inr (9, [.ref a0, .ref a1, .ref a2, v3, v4, v5, v6, v7, v8, v9, v10, v11, v12, v13, v14, v15, v16, v17, v18, v19, v20, v21, .ref a22, v23, v24, v25, v26, v27, v28, v29, v30, v31, v32, v33, v34, v35, v36, v37, v38, v39, v40, v41, v42, v43, v44, v45, v46, v47, v48, v49, v50, v51])), (a0, .inl (cI, 3, .inl (fun j => nI (C j)))), (a1, .inl (cI, 9, .inl (fun j => nI (Mn j)))), (a2, .inl (cI, 108, .inl kd)), (a22, .inl (cI, 58, .inl nw))]) (va_runS (As := [.int (nI ((js) % 3))]) (rest := [.ref a22]) ⟨hx, hb, hml, hown, hts⟩ (c_rowAt9 l D cI cB cZ ((js) % 3) _) (va_cwS 1 hts gP_x_can9__c_rowAt9 rfl rfl rfl (by decide +kernel) ⟨Nat.le_of_ble_eq_true rfl, Nat.le_of_ble_eq_true rfl⟩) (gx_preS hK gN.nil hP hD [] rfl rfl) rfl rfl hl.1 rfl (lv_room (Nat.le_of_ble_eq_true rfl)) dX9_can_43 ⟨Nat.le_of_ble_eq_true rfl, Nat.le_of_ble_eq_true rfl⟩) hP hD hS hA [] [0, 1, 2, 3, 4] rfl rfl rfl (by decide) (fun r1 w1 H locs hp hP hD hS => ?_)
            obtain ⟨h9, rfl⟩ := hp
            have h9 := h9.symm
            subst h9
            refine gy_ild (i := (16 + (13 * ((js) % 3)))) hx hb hK hP 4 rfl (by omega) (by omega) dX9_can_46 ?_
            refine gx_top (y := nI (rz ((js) % 3))) e2 ?_
            refine lv_if_le (tgt := 54) hx hb dX9_can_47 (by decide) (fun c_14i => ?_) (fun c_14i => ?_)
            · have c_14 : rz ((js) % 3) ≤ 0 := (nI_leI (a := rz ((js) % 3)) (b := 0) (by omega) (by decide)).mp c_14i
              refine lv_iconst (v := 0) hx hb dX9_can_54 (by decide) ?_
              have hP : va_P D vwCl [(h0, .inr (9, [.ref a0, .ref a1, .ref a2, v3, v4, v5, v6, v7, v8, v9, v10, v11, v12, v13, v14, v15, v16, v17, v18, v19, v20, v21, .ref a22, v23, v24, v25, v26, v27, v28, v29, v30, v31, v32, v33, v34, v35, v36, v37, v38, v39, v40, v41, v42, v43, v44, v45, v46, v47, v48, v49, v50, v51])), (a0, .inl (cI, 3, .inl (fun j => nI (C j)))), (a1, .inl (cI, 9, .inl (fun j => nI (Mn j)))), (a2, .inl (cI, 108, .inl kd)), (a22, .inl (cI, 58, .inl nw))] H := hP
              have hD : va_D A [(h0, .inr (9, [.ref a0, .ref a1, .ref a2, v3, v4, v5, v6, v7, v8, v9, v10, v11, v12, v13, v14, v15, v16, v17, v18, v19, v20, v21, .ref a22, v23, v24, v25, v26, v27, v28, v29, v30, v31, v32, v33, v34, v35, v36, v37, v38, v39, v40, v41, v42, v43, v44, v45, v46, v47, v48, v49, v50, v51])), (a0, .inl (cI, 3, .inl (fun j => nI (C j)))), (a1, .inl (cI, 9, .inl (fun j => nI (Mn j)))), (a2, .inl (cI, 108, .inl kd)), (a22, .inl (cI, 58, .inl nw))] := hD
              exact gx_zret (w' := [(h0, .inr (9, [.ref a0, .ref a1, .ref a2, v3, v4, v5, v6, v7, v8, v9, v10, v11, v12, v13, v14, v15, v16, v17, v18, v19, v20, v21, .ref a22, v23, v24, v25, v26, v27, v28, v29, v30, v31, v32, v33, v34, v35, v36, v37, v38, v39, v40, v41, v42, v43, v44, v45, v46, v47, v48, v49, v50, v51])), (a0, .inl (cI, 3, .inl (fun j => nI (C j)))), (a1, .inl (cI, 9, .inl (fun j => nI (Mn j)))), (a2, .inl (cI, 108, .inl kd)), (a22, .inl (cI, 58, .inl nw))]) hx hb hr hlk hK hP hD hS (Nat.le_of_ble_eq_true rfl) (Nat.le_of_ble_eq_true rfl) dX9_can_55 rfl ⟨0, (by first | exact Or.inl rfl | exact Or.inr ⟨rfl, hgc⟩), (by first | exact Or.inl ⟨rfl, hge⟩ | exact Or.inr ⟨rfl, fun h => c_14 ((gCE9_g hjs (by omega)).mp h).2.2⟩ | exact Or.inr ⟨rfl, fun h => by have h1 := ((gCE9_g hjs (by omega)).mp h).1; have h2 := ((gCE9_g hjs (by omega)).mp h).2.1; omega⟩), rfl, rfl⟩
            · have c_14 : 0 < rz ((js) % 3) := Nat.pos_of_ne_zero (fun q9 => c_14i ((nI_leI (a := rz ((js) % 3)) (b := 0) (by omega) (by decide)).mpr (Nat.le_of_eq q9)))
              have hgc : gCan9 C Mn nx rz pr mode (nI js) := Or.inl ⟨(js) % 3, by omega, by omega, by congr 1; omega, by omega, c_12⟩
              have hge : gCE9 C Mn nx rz kd pr mode (nI js) := (gCE9_g hjs (by omega)).mpr ⟨by omega, by omega, c_12⟩
              refine lv_iconst (v := 1) hx hb dX9_can_50 (by decide) ?_
              refine lv_goto (tgt := 55) hx hb dX9_can_51 (by decide) ?_
              have hP : va_P D vwCl [(h0, .inr (9, [.ref a0, .ref a1, .ref a2, v3, v4, v5, v6, v7, v8, v9, v10, v11, v12, v13, v14, v15, v16, v17, v18, v19, v20, v21, .ref a22, v23, v24, v25, v26, v27, v28, v29, v30, v31, v32, v33, v34, v35, v36, v37, v38, v39, v40, v41, v42, v43, v44, v45, v46, v47, v48, v49, v50, v51])), (a0, .inl (cI, 3, .inl (fun j => nI (C j)))), (a1, .inl (cI, 9, .inl (fun j => nI (Mn j)))), (a2, .inl (cI, 108, .inl kd)), (a22, .inl (cI, 58, .inl nw))] H := hP
              have hD : va_D A [(h0, .inr (9, [.ref a0, .ref a1, .ref a2, v3, v4, v5, v6, v7, v8, v9, v10, v11, v12, v13, v14, v15, v16, v17, v18, v19, v20, v21, .ref a22, v23, v24, v25, v26, v27, v28, v29, v30, v31, v32, v33, v34, v35, v36, v37, v38, v39, v40, v41, v42, v43, v44, v45, v46, v47, v48, v49, v50, v51])), (a0, .inl (cI, 3, .inl (fun j => nI (C j)))), (a1, .inl (cI, 9, .inl (fun j => nI (Mn j)))), (a2, .inl (cI, 108, .inl kd)), (a22, .inl (cI, 58, .inl nw))] := hD
              exact gx_zret (w' := [(h0, .inr (9, [.ref a0, .ref a1, .ref a2, v3, v4, v5, v6, v7, v8, v9, v10, v11, v12, v13, v14, v15, v16, v17, v18, v19, v20, v21, .ref a22, v23, v24, v25, v26, v27, v28, v29, v30, v31, v32, v33, v34, v35, v36, v37, v38, v39, v40, v41, v42, v43, v44, v45, v46, v47, v48, v49, v50, v51])), (a0, .inl (cI, 3, .inl (fun j => nI (C j)))), (a1, .inl (cI, 9, .inl (fun j => nI (Mn j)))), (a2, .inl (cI, 108, .inl kd)), (a22, .inl (cI, 58, .inl nw))]) hx hb hr hlk hK hP hD hS (Nat.le_of_ble_eq_true rfl) (Nat.le_of_ble_eq_true rfl) dX9_can_55 rfl ⟨1, (by first | exact Or.inl rfl | exact Or.inr ⟨rfl, hgc⟩), (by first | exact Or.inl ⟨rfl, hge⟩ | exact Or.inr ⟨rfl, fun h => c_14 ((gCE9_g hjs (by omega)).mp h).2.2⟩ | exact Or.inr ⟨rfl, fun h => by have h1 := ((gCE9_g hjs (by omega)).mp h).1; have h2 := ((gCE9_g hjs (by omega)).mp h).2.1; omega⟩), rfl, rfl⟩
    · refine lv_iconst (v := 0) hx hb dX9_can_9 (by decide) ?_
      exact gx_zret (w' := [(h0, .inr (9, [.ref a0, .ref a1, .ref a2, v3, v4, v5, v6, v7, v8, v9, v10, v11, v12, v13, v14, v15, v16, v17, v18, v19, v20, v21, .ref a22, v23, v24, v25, v26, v27, v28, v29, v30, v31, v32, v33, v34, v35, v36, v37, v38, v39, v40, v41, v42, v43, v44, v45, v46, v47, v48, v49, v50, v51])), (a0, .inl (cI, 3, .inl (fun j => nI (C j)))), (a1, .inl (cI, 9, .inl (fun j => nI (Mn j)))), (a2, .inl (cI, 108, .inl kd)), (a22, .inl (cI, 58, .inl nw))]) hx hb hr hlk hK hP hD hS (Nat.le_of_ble_eq_true rfl) (Nat.le_of_ble_eq_true rfl) dX9_can_10 rfl ⟨0, (Or.inl rfl), (by first | exact Or.inr ⟨rfl, gCE9_o (Or.inl c_2)⟩ | exact Or.inr ⟨rfl, gCE9_o (Or.inr c_2)⟩), rfl, rfl⟩
