
def wsP_x_plInAll : List Cond := .code yX4_placesInAll cX4_placesInAll 3 (some .int) :: (([.fieldLink RX4 21 "LitmusHall$Program" "cores" "I", .fieldLink RX4 9 "LitmusHall$Program" "lengths" "[I", .methodLink RX4 35 Lib.Math.max.name, .static Lib.Math.max.name, .initialized "java/lang/Math", .code Lib.Math.max.name Lib.Math.max.code 2 (some .int)] ++ wsX40) ++ [])
theorem gW_x_plInAll : wsP_x_plInAll.all goodWord = true := by unfold wsP_x_plInAll; exact gw_mk (by decide +kernel) rfl
set_option maxHeartbeats 4000000 in
set_option maxRecDepth 100000 in
theorem x_plInAll (l : Launch) (D : va_G) (cI cB cZ : ClassId) (h0 : Nat) (a1 : Nat) (v2 : Value) (v3 : Value) (L : Nat → Nat) (n : Nat) (hn : n ≤ 3) (hL : ∀ k, k < 3 → L k ≤ 8) : gMi l yX4_placesInAll wsP_x_plInAll ({ frames := 1, cells := 0, slots := 0, locals := 30 }) D cI cB cZ [] [.ref h0] [(h0, .inr (4, [.int (nI n), .ref a1, v2, v3])), (a1, .inl (cI, 3, .inl (fun j => nI (L j))))] (fun r9 w9 => ∃ t : Nat, (t ≤ 21) ∧ (t = gPn L n) ∧ r9 = (nI t) ∧ w9 = [(h0, .inr (4, [.int (nI n), .ref a1, v2, v3])), (a1, .inl (cI, 3, .inl (fun j => nI (L j))))]) := by
  refine gMi.of (cc := cX4_placesInAll) (maxL := 3) (ret := (some .int)) (by decide) rfl (Nat.le_of_ble_eq_true rfl) (fun p e s m below meth c A ls hx hb hr hlk hml hts hown hin hA hP hK hD hS hN hl => ?_)
  have hown : s.vm.findClass RX4 = some m.cls := hown
  have hl : lv_has ls 3 [(0, .ref h0)] := hl
  refine lv_iconst (v := 0) hx hb dX4_placesInAll_0 (by decide) ?_
  refine lv_istore_n (lv' := [(1, .int 0), (0, .ref h0)]) hx hb dX4_placesInAll_1 rfl hl (by decide) rfl (fun ls hl => ?_)
  refine lv_iconst (v := 0) hx hb dX4_placesInAll_2 (by decide) ?_
  refine lv_istore_n (lv' := [(2, .int 0), (1, .int 0), (0, .ref h0)]) hx hb dX4_placesInAll_3 rfl hl (by decide) rfl (fun ls hl => ?_)
  refine gy_loop0 (I := fun (x9 : Nat × Nat) H locs ls => (x9.1 ≤ n) ∧ (x9.2 ≤ 7 * x9.1) ∧ (x9.2 = gPn L x9.1) ∧ va_P D vwCl [(h0, .inr (4, [.int (nI n), .ref a1, v2, v3])), (a1, .inl (cI, 3, .inl (fun j => nI (L j))))] H ∧ va_D A [(h0, .inr (4, [.int (nI n), .ref a1, v2, v3])), (a1, .inl (cI, 3, .inl (fun j => nI (L j))))] ∧ va_S A s.heap H locs ∧ lv_has ls 3 [(2, .int (nI x9.1)), (1, .int (nI x9.2)), (0, .ref h0)]) (μ := fun (x9 : Nat × Nat) => n - x9.1) (fun x9 H locs ls hI ih4 => ?_) (0, 0) ⟨(by show 0 ≤ n; exact Nat.zero_le _), (by show 0 ≤ 7 * 0; exact Nat.le_of_ble_eq_true rfl), rfl, hP, hD, hS, lv_sub hl [0, 1, 2] rfl⟩
  obtain ⟨i, t⟩ := x9
  obtain ⟨hi4_0, hi4_1, hi4_2, hP, hD, hS, hl⟩ := hI
  have hi4_0 : i ≤ n := hi4_0
  have hi4_1 : t ≤ 7 * i := hi4_1
  have hi4_2 : t = gPn L i := hi4_2
  have hP : va_P D vwCl [(h0, .inr (4, [.int (nI n), .ref a1, v2, v3])), (a1, .inl (cI, 3, .inl (fun j => nI (L j))))] H := hP
  have hD : va_D A [(h0, .inr (4, [.int (nI n), .ref a1, v2, v3])), (a1, .inl (cI, 3, .inl (fun j => nI (L j))))] := hD
  have hS : va_S A s.heap H locs := hS
  have hl : lv_has ls 3 [(2, .int (nI i)), (1, .int (nI t)), (0, .ref h0)] := hl
  refine lv_iload_n hx hb dX4_placesInAll_4 rfl (lv_at hl 0 rfl) ?_
  refine lv_aload_n hx hb dX4_placesInAll_5 rfl (lv_at hl 2 rfl) ?_
  refine va_get (D := D) (ci := 4) (v := .int (nI n)) (C := RX4) (T := TX4) (N := 4) hx hb hts (fun _ h => List.mem_cons_of_mem _ (List.mem_append_left _ (List.mem_append_right _ h))) hown hK hP 0 rfl rfl 0 (by decide) (hts (.fieldLink RX4 21 "LitmusHall$Program" "cores" "I") (by decide +kernel)) (fun _ h9 => h9) rfl dX4_placesInAll_6 ?_
  refine gy_ge (a := i) (b := n) (tgt := 33) hx hb (by omega) (by omega) dX4_placesInAll_9 (by decide) (fun c_1 => ?_) (fun c_1 => ?_)
  · refine lv_iload_n hx hb dX4_placesInAll_33 rfl (lv_at hl 1 rfl) ?_
    exact gx_iret (w' := [(h0, .inr (4, [.int (nI n), .ref a1, v2, v3])), (a1, .inl (cI, 3, .inl (fun j => nI (L j))))]) hx hb hr hlk hK hP hD hS (Nat.le_of_ble_eq_true rfl) (Nat.le_of_ble_eq_true rfl) dX4_placesInAll_34 ⟨t, (by omega), (by rw [show n = i by omega]; exact hi4_2), rfl, rfl⟩
  · refine lv_iload_n hx hb dX4_placesInAll_12 rfl (lv_at hl 1 rfl) ?_
    refine lv_iconst (v := 0) hx hb dX4_placesInAll_13 (by decide) ?_
    refine lv_aload_n hx hb dX4_placesInAll_14 rfl (lv_at hl 2 rfl) ?_
    refine va_get (D := D) (ci := 4) (v := .ref a1) (C := RX4) (T := TX4) (N := 4) hx hb hts (fun _ h => List.mem_cons_of_mem _ (List.mem_append_left _ (List.mem_append_right _ h))) hown hK hP 0 rfl rfl 1 (by decide) (hts (.fieldLink RX4 9 "LitmusHall$Program" "lengths" "[I") (by decide +kernel)) (fun _ h9 => h9) rfl dX4_placesInAll_15 ?_
    refine lv_iload_n hx hb dX4_placesInAll_18 rfl (lv_at hl 0 rfl) ?_
    refine gy_ild (i := i) hx hb hK hP 1 rfl (by omega) (by omega) dX4_placesInAll_19 ?_
    refine gx_top (y := nI (L i)) rfl ?_
    have hL0 := hL i (by omega)
    refine lv_iconst (v := 1) hx hb dX4_placesInAll_20 (by decide) ?_
    refine lv_isub hx hb dX4_placesInAll_21 ?_
    refine va_mmax hx hb (hml.trans hl.1.symm) hown (hts (.methodLink RX4 35 Lib.Math.max.name) (by decide +kernel)) (hts (.static Lib.Math.max.name) (by decide +kernel)) (hts (.initialized "java/lang/Math") (by decide +kernel)) (hts (.code Lib.Math.max.name Lib.Math.max.code 2 (some .int)) (by decide +kernel)) (Nat.le_of_ble_eq_true rfl) (Nat.le_of_ble_eq_true rfl) (Nat.le_of_ble_eq_true rfl) (Nat.le_of_ble_eq_true rfl) dX4_placesInAll_22 ?_
    refine gx_top (y := nI (L i - 1)) (gy_max0 (by omega)) ?_
    refine lv_iadd hx hb dX4_placesInAll_25 ?_
    refine gx_top (y := nI (t + (L i - 1))) (nI_add t (L i - 1)) ?_
    refine lv_istore_n (lv' := [(1, .int (nI (t + (L i - 1)))), (2, .int (nI i)), (0, .ref h0)]) hx hb dX4_placesInAll_26 rfl hl (by decide) rfl (fun ls hl => ?_)
    refine lv_iinc (v := nI (i + 1)) (lv' := [(2, .int (nI (i + 1))), (1, .int (nI (t + (L i - 1)))), (0, .ref h0)]) hx hb dX4_placesInAll_27 hl (k := 1) rfl (nI_add i 1) (by decide) rfl (fun ls hl => ?_)
    refine lv_goto (tgt := 4) hx hb dX4_placesInAll_30 (by decide) ?_
    exact ih4 ((i + 1), (t + (L i - 1))) H locs ls ⟨(by show (i + 1) ≤ n; omega), (by show (t + (L i - 1)) ≤ 7 * (i + 1); omega), (by show (t + (L i - 1)) = gPn L (i + 1); rw [hi4_2]; rfl), hP, hD, hS, lv_sub hl [0, 1, 2] rfl⟩ (by show n - (i + 1) < n - i; omega)
def wsP_x_placeOf : List Cond := .code yX4_placeOf cX4_placeOf 5 (some .int) :: (([.fieldLink RX4 21 "LitmusHall$Program" "cores" "I", .fieldLink RX4 9 "LitmusHall$Program" "lengths" "[I", .methodLink RX4 35 Lib.Math.max.name, .static Lib.Math.max.name, .initialized "java/lang/Math", .code Lib.Math.max.name Lib.Math.max.code 2 (some .int)] ++ wsX40) ++ [])
theorem gW_x_placeOf : wsP_x_placeOf.all goodWord = true := by unfold wsP_x_placeOf; exact gw_mk (by decide +kernel) rfl
set_option maxHeartbeats 4000000 in
set_option maxRecDepth 100000 in
theorem x_placeOf (l : Launch) (D : va_G) (cI cB cZ : ClassId) (h0 : Nat) (a1 : Nat) (v2 : Value) (v3 : Value) (L : Nat → Nat) (n : Nat) (a : Nat) (hn : n ≤ 3) (ha : a < gPn L n) (ha9 : a < 2 ^ 31) (hL : ∀ k, k < 3 → L k ≤ 8) : gMi l yX4_placeOf wsP_x_placeOf ({ frames := 1, cells := 0, slots := 0, locals := 30 }) D cI cB cZ [] [.ref h0, .int (nI a)] [(h0, .inr (4, [.int (nI n), .ref a1, v2, v3])), (a1, .inl (cI, 3, .inl (fun j => nI (L j))))] (fun r9 w9 => ∃ z : Int32, (gPz L n a z) ∧ r9 = z ∧ w9 = [(h0, .inr (4, [.int (nI n), .ref a1, v2, v3])), (a1, .inl (cI, 3, .inl (fun j => nI (L j))))]) := by
  refine gMi.of (cc := cX4_placeOf) (maxL := 5) (ret := (some .int)) (by decide) rfl (Nat.le_of_ble_eq_true rfl) (fun p e s m below meth c A ls hx hb hr hlk hml hts hown hin hA hP hK hD hS hN hl => ?_)
  have hown : s.vm.findClass RX4 = some m.cls := hown
  have hl : lv_has ls 5 [(0, .ref h0), (1, .int (nI a))] := hl
  refine lv_iload_n hx hb dX4_placeOf_0 rfl (lv_at hl 1 rfl) ?_
  refine lv_istore_n (lv' := [(2, .int (nI a)), (0, .ref h0), (1, .int (nI a))]) hx hb dX4_placeOf_1 rfl hl (by decide) rfl (fun ls hl => ?_)
  refine lv_iconst (v := 0) hx hb dX4_placeOf_2 (by decide) ?_
  refine lv_istore_n (lv' := [(3, .int 0), (2, .int (nI a)), (0, .ref h0), (1, .int (nI a))]) hx hb dX4_placeOf_3 rfl hl (by decide) rfl (fun ls hl => ?_)
  refine gy_loop0 (I := fun (x9 : Nat × Nat) H locs ls => (x9.1 ≤ n) ∧ (x9.2 < 2 ^ 31) ∧ (a = gPn L x9.1 + x9.2) ∧ va_P D vwCl [(h0, .inr (4, [.int (nI n), .ref a1, v2, v3])), (a1, .inl (cI, 3, .inl (fun j => nI (L j))))] H ∧ va_D A [(h0, .inr (4, [.int (nI n), .ref a1, v2, v3])), (a1, .inl (cI, 3, .inl (fun j => nI (L j))))] ∧ va_S A s.heap H locs ∧ lv_has ls 5 [(3, .int (nI x9.1)), (2, .int (nI x9.2)), (0, .ref h0), (1, .int (nI a))]) (μ := fun (x9 : Nat × Nat) => n - x9.1) (fun x9 H locs ls hI ih4 => ?_) (0, a) ⟨(by show 0 ≤ n; exact Nat.zero_le _), (by show a < 2 ^ 31; omega), (by show a = gPn L 0 + a; show a = 0 + a; omega), hP, hD, hS, lv_sub hl [0, 1, 2, 3] rfl⟩
  obtain ⟨k, t⟩ := x9
  obtain ⟨hi4_0, hi4_1, hi4_2, hP, hD, hS, hl⟩ := hI
  have hi4_0 : k ≤ n := hi4_0
  have hi4_1 : t < 2 ^ 31 := hi4_1
  have hi4_2 : a = gPn L k + t := hi4_2
  have hP : va_P D vwCl [(h0, .inr (4, [.int (nI n), .ref a1, v2, v3])), (a1, .inl (cI, 3, .inl (fun j => nI (L j))))] H := hP
  have hD : va_D A [(h0, .inr (4, [.int (nI n), .ref a1, v2, v3])), (a1, .inl (cI, 3, .inl (fun j => nI (L j))))] := hD
  have hS : va_S A s.heap H locs := hS
  have hl : lv_has ls 5 [(3, .int (nI k)), (2, .int (nI t)), (0, .ref h0), (1, .int (nI a))] := hl
  refine lv_iload_n hx hb dX4_placeOf_4 rfl (lv_at hl 0 rfl) ?_
  refine lv_aload_n hx hb dX4_placeOf_5 rfl (lv_at hl 2 rfl) ?_
  refine va_get (D := D) (ci := 4) (v := .int (nI n)) (C := RX4) (T := TX4) (N := 4) hx hb hts (fun _ h => List.mem_cons_of_mem _ (List.mem_append_left _ (List.mem_append_right _ h))) hown hK hP 0 rfl rfl 0 (by decide) (hts (.fieldLink RX4 21 "LitmusHall$Program" "cores" "I") (by decide +kernel)) (fun _ h9 => h9) rfl dX4_placeOf_6 ?_
  refine gy_ge (a := k) (b := n) (tgt := 52) hx hb (by omega) (by omega) dX4_placeOf_9 (by decide) (fun c_1 => ?_) (fun c_1 => ?_)
  · refine lv_iconst (v := (-1)) hx hb dX4_placeOf_52 (by decide) ?_
    exact gx_iret (w' := [(h0, .inr (4, [.int (nI n), .ref a1, v2, v3])), (a1, .inl (cI, 3, .inl (fun j => nI (L j))))]) hx hb hr hlk hK hP hD hS (Nat.le_of_ble_eq_true rfl) (Nat.le_of_ble_eq_true rfl) dX4_placeOf_53 ⟨(-1), (by exfalso; have e9 : k = n := (by omega); subst e9; omega), rfl, rfl⟩
  · refine lv_iconst (v := 0) hx hb dX4_placeOf_12 (by decide) ?_
    refine lv_aload_n hx hb dX4_placeOf_13 rfl (lv_at hl 2 rfl) ?_
    refine va_get (D := D) (ci := 4) (v := .ref a1) (C := RX4) (T := TX4) (N := 4) hx hb hts (fun _ h => List.mem_cons_of_mem _ (List.mem_append_left _ (List.mem_append_right _ h))) hown hK hP 0 rfl rfl 1 (by decide) (hts (.fieldLink RX4 9 "LitmusHall$Program" "lengths" "[I") (by decide +kernel)) (fun _ h9 => h9) rfl dX4_placeOf_14 ?_
    refine lv_iload_n hx hb dX4_placeOf_17 rfl (lv_at hl 0 rfl) ?_
    refine gy_ild (i := k) hx hb hK hP 1 rfl (by omega) (by omega) dX4_placeOf_18 ?_
    refine gx_top (y := nI (L k)) rfl ?_
    have hL0 := hL k (by omega)
    refine lv_iconst (v := 1) hx hb dX4_placeOf_19 (by decide) ?_
    refine lv_isub hx hb dX4_placeOf_20 ?_
    refine va_mmax hx hb (hml.trans hl.1.symm) hown (hts (.methodLink RX4 35 Lib.Math.max.name) (by decide +kernel)) (hts (.static Lib.Math.max.name) (by decide +kernel)) (hts (.initialized "java/lang/Math") (by decide +kernel)) (hts (.code Lib.Math.max.name Lib.Math.max.code 2 (some .int)) (by decide +kernel)) (Nat.le_of_ble_eq_true rfl) (Nat.le_of_ble_eq_true rfl) (Nat.le_of_ble_eq_true rfl) (Nat.le_of_ble_eq_true rfl) dX4_placeOf_21 ?_
    refine gx_top (y := nI (L k - 1)) (gy_max0 (by omega)) ?_
    refine lv_istore (lv' := [(4, .int (nI (L k - 1))), (3, .int (nI k)), (2, .int (nI t)), (0, .ref h0), (1, .int (nI a))]) hx hb dX4_placeOf_24 hl (by decide) rfl (fun ls hl => ?_)
    refine lv_iload_n hx hb dX4_placeOf_26 rfl (lv_at hl 2 rfl) ?_
    refine lv_iload hx hb dX4_placeOf_27 (lv_at hl 0 rfl) ?_
    refine gy_ge (a := t) (b := (L k - 1)) (tgt := 41) hx hb (by omega) (by omega) dX4_placeOf_29 (by decide) (fun c_2 => ?_) (fun c_2 => ?_)
    · refine lv_iload_n hx hb dX4_placeOf_41 rfl (lv_at hl 2 rfl) ?_
      refine lv_iload hx hb dX4_placeOf_42 (lv_at hl 0 rfl) ?_
      refine lv_isub hx hb dX4_placeOf_44 ?_
      refine gx_top (y := nI (t - (L k - 1))) (pk_sub (a := t) (b := L k - 1) (by omega)) ?_
      refine lv_istore_n (lv' := [(2, .int (nI (t - (L k - 1)))), (4, .int (nI (L k - 1))), (3, .int (nI k)), (0, .ref h0), (1, .int (nI a))]) hx hb dX4_placeOf_45 rfl hl (by decide) rfl (fun ls hl => ?_)
      refine lv_iinc (v := nI (k + 1)) (lv' := [(3, .int (nI (k + 1))), (2, .int (nI (t - (L k - 1)))), (4, .int (nI (L k - 1))), (0, .ref h0), (1, .int (nI a))]) hx hb dX4_placeOf_46 hl (k := 2) rfl (nI_add k 1) (by decide) rfl (fun ls hl => ?_)
      refine lv_goto (tgt := 4) hx hb dX4_placeOf_49 (by decide) ?_
      exact ih4 ((k + 1), (t - (L k - 1))) H locs ls ⟨(by show (k + 1) ≤ n; omega), (by show (t - (L k - 1)) < 2 ^ 31; omega), (by show a = gPn L (k + 1) + (t - (L k - 1)); show a = gPn L k + (L k - 1) + (t - (L k - 1)); omega), hP, hD, hS, lv_sub hl [0, 1, 3, 4] rfl⟩ (by show n - (k + 1) < n - k; omega)
    · refine lv_iload_n hx hb dX4_placeOf_32 rfl (lv_at hl 1 rfl) ?_
      refine lv_bipush (v := 10) hx hb dX4_placeOf_33 (by decide) ?_
      refine lv_imul hx hb dX4_placeOf_35 ?_
      refine gx_top (y := nI (k * 10)) (pk_mul k 10) ?_
      refine lv_iload_n hx hb dX4_placeOf_36 rfl (lv_at hl 2 rfl) ?_
      refine lv_iadd hx hb dX4_placeOf_37 ?_
      refine gx_top (y := nI ((k * 10) + t)) (nI_add (k * 10) t) ?_
      refine lv_iconst (v := 1) hx hb dX4_placeOf_38 (by decide) ?_
      refine lv_iadd hx hb dX4_placeOf_39 ?_
      refine gx_top (y := nI (((k * 10) + t) + 1)) (nI_add ((k * 10) + t) 1) ?_
      exact gx_iret (w' := [(h0, .inr (4, [.int (nI n), .ref a1, v2, v3])), (a1, .inl (cI, 3, .inl (fun j => nI (L j))))]) hx hb hr hlk hK hP hD hS (Nat.le_of_ble_eq_true rfl) (Nat.le_of_ble_eq_true rfl) dX4_placeOf_40 ⟨(nI (((k * 10) + t) + 1)), ⟨_, rfl, k, t + 1, by omega, by omega, by omega, by omega, by omega⟩, rfl, rfl⟩
def wsP_x_fSame : List Cond := .code yX2_isSame cX2_isSame 4 (some .boolean) :: (([.fieldLink RX2 31 "LitmusHall$Explorer" "endSize" "I", .fieldLink RX2 34 "LitmusHall$Findings" "size" "I", .methodLink RX2 68 yX2_intOf, .instanceMethod yX2_intOf, .selects RX2 yX2_intOf yX2_intOf, .initialized RX2, .fieldLink RX2 45 "LitmusHall$Explorer" "ends" "[I", .methodLink RX2 48 yX1_intOf, .instanceMethod yX1_intOf, .selects RX1 yX1_intOf yX1_intOf, .initialized RX1] ++ wsX10 ++ wsX20) ++ (wsP_c_findInt ++ (wsP_x_xInt ++ [])))
theorem gW_x_fSame : wsP_x_fSame.all goodWord = true := by unfold wsP_x_fSame; exact gw_mk (by decide +kernel) (gw_app gW_c_findInt (gw_app gW_x_xInt rfl))
set_option maxRecDepth 20000 in
theorem gP_x_fSame__c_findInt : GoodIn wsP_x_fSame (wsV RX2 68 RX2 yX2_intOf wsP_c_findInt) := gw_in (pre := [.methodLink RX2 68 yX2_intOf, .instanceMethod yX2_intOf, .selects RX2 yX2_intOf yX2_intOf, .initialized RX2]) (by decide +kernel) (fun _ h => List.mem_cons_of_mem _ (List.mem_append_right _ (List.mem_append_left _ h))) gW_c_findInt
set_option maxRecDepth 20000 in
theorem gP_x_fSame__x_xInt : GoodIn wsP_x_fSame (wsV RX2 48 RX1 yX1_intOf wsP_x_xInt) := gw_in (pre := [.methodLink RX2 48 yX1_intOf, .instanceMethod yX1_intOf, .selects RX1 yX1_intOf yX1_intOf, .initialized RX1]) (by decide +kernel) (fun _ h => List.mem_cons_of_mem _ (List.mem_append_right _ (List.mem_append_right _ (List.mem_append_left _ h)))) gW_x_xInt
set_option maxHeartbeats 4000000 in
set_option maxRecDepth 100000 in
theorem x_fSame (l : Launch) (D : va_G) (cI cB cZ : ClassId) (h0 : Nat) (a4 : Nat) (v0 : Value) (v1 : Value) (v2 : Value) (s1 : Nat) (rr1 : Nat) (rec1 : Nat → Int32) (x0 : Nat) (a2 : Nat) (a7 : Nat) (u0 : Value) (u3 : Value) (u4 : Value) (u5 : Value) (u8 : Value) (u9 : Value) (wd : Nat) (sz : Nat) (es : Nat) (rl : Nat) (ef : Nat → Int32) (rf : Nat → Int32) (el : Nat → Nat) (hw16 : 16 ≤ wd) (hw34 : wd ≤ 34) (hrl : rl ≤ 102000) (hsz : sz ≤ 3000) (hfit : sz * wd ≤ rl) (hen : gEn ef es sz) (hes : es ≤ sz) (h1 : s1 * 17 ≤ rr1) (h3 : rr1 ≤ 51000) (hel : ∀ i, i < es → ef i = nI (el i) ∧ el i < sz) : gMi l yX2_isSame wsP_x_fSame ({ frames := 1, cells := 0, slots := 0, locals := 22 }) D cI cB cZ [] [.ref h0, .ref x0] [(h0, .inr (2, [v0, v1, v2, .int (nI s1), .ref a4])), (a4, .inl (cI, rr1, .inl rec1)), (x0, .inr (1, [u0, .int (nI es), .ref a2, u3, u4, u5, .int (nI wd), .ref a7, u8, u9])), (a2, .inl (cI, 3000, .inl ef)), (a7, .inl (cI, rl, .inl rf))] (fun r9 w9 => ∃ z : Int32, (z = 0 ∨ z = 1) ∧ ((z = 1 ∧ gIsm rec1 rf el wd es s1) ∨ (z = 0 ∧ ¬ gIsm rec1 rf el wd es s1)) ∧ r9 = z ∧ w9 = [(h0, .inr (2, [v0, v1, v2, .int (nI s1), .ref a4])), (a4, .inl (cI, rr1, .inl rec1)), (x0, .inr (1, [u0, .int (nI es), .ref a2, u3, u4, u5, .int (nI wd), .ref a7, u8, u9])), (a2, .inl (cI, 3000, .inl ef)), (a7, .inl (cI, rl, .inl rf))]) := by
  refine gMi.of (cc := cX2_isSame) (maxL := 4) (ret := (some .boolean)) (by decide) rfl (Nat.le_of_ble_eq_true rfl) (fun p e s m below meth c A ls hx hb hr hlk hml hts hown hin hA hP hK hD hS hN hl => ?_)
  have hown : s.vm.findClass RX2 = some m.cls := hown
  have hl : lv_has ls 4 [(0, .ref h0), (1, .ref x0)] := hl
  refine lv_aload_n hx hb dX2_isSame_0 rfl (lv_at hl 1 rfl) ?_
  refine va_get (D := D) (ci := 1) (v := .int (nI es)) (C := RX1) (T := TX1) (N := 10) hx hb hts (fun _ h => List.mem_cons_of_mem _ (List.mem_append_left _ (List.mem_append_left _ (List.mem_append_right _ h)))) hown hK hP 2 rfl rfl 1 (by decide) (hts (.fieldLink RX2 31 "LitmusHall$Explorer" "endSize" "I") (by decide +kernel)) (fun _ h9 => h9) rfl dX2_isSame_1 ?_
  refine lv_aload_n hx hb dX2_isSame_4 rfl (lv_at hl 0 rfl) ?_
  refine va_get (D := D) (ci := 2) (v := .int (nI s1)) (C := RX2) (T := TX2) (N := 5) hx hb hts (fun _ h => List.mem_cons_of_mem _ (List.mem_append_left _ (List.mem_append_right _ h))) hown hK hP 0 rfl rfl 3 (by decide) (hts (.fieldLink RX2 34 "LitmusHall$Findings" "size" "I") (by decide +kernel)) (fun _ h9 => h9) rfl dX2_isSame_5 ?_
  refine gy_eq (a := es) (b := s1) (tgt := 13) hx hb (by omega) (by omega) dX2_isSame_8 (by decide) (fun c_1 => ?_) (fun c_1 => ?_)
  · refine lv_iconst (v := 0) hx hb dX2_isSame_13 (by decide) ?_
    refine lv_istore_n (lv' := [(2, .int 0), (0, .ref h0), (1, .ref x0)]) hx hb dX2_isSame_14 rfl hl (by decide) rfl (fun ls hl => ?_)
    refine gy_loop0 (I := fun (x9 : Nat) H locs ls => (x9 ≤ s1) ∧ (∀ n9, n9 < x9 → ∀ i9, i9 < 13 → rec1 ((n9 * 17) + i9) = rf ((el n9 * wd) + i9)) ∧ va_P D vwCl [(h0, .inr (2, [v0, v1, v2, .int (nI s1), .ref a4])), (a4, .inl (cI, rr1, .inl rec1)), (x0, .inr (1, [u0, .int (nI es), .ref a2, u3, u4, u5, .int (nI wd), .ref a7, u8, u9])), (a2, .inl (cI, 3000, .inl ef)), (a7, .inl (cI, rl, .inl rf))] H ∧ va_D A [(h0, .inr (2, [v0, v1, v2, .int (nI s1), .ref a4])), (a4, .inl (cI, rr1, .inl rec1)), (x0, .inr (1, [u0, .int (nI es), .ref a2, u3, u4, u5, .int (nI wd), .ref a7, u8, u9])), (a2, .inl (cI, 3000, .inl ef)), (a7, .inl (cI, rl, .inl rf))] ∧ va_S A s.heap H locs ∧ lv_has ls 4 [(2, .int (nI x9)), (0, .ref h0), (1, .ref x0)]) (μ := fun (x9 : Nat) => s1 - x9) (fun x9 H locs ls hI ih15 => ?_) 0 ⟨(by show 0 ≤ s1; exact Nat.zero_le _), (by show ∀ n9, n9 < 0 → ∀ i9, i9 < 13 → rec1 ((n9 * 17) + i9) = rf ((el n9 * wd) + i9); exact (fun n9 h => absurd h (Nat.not_lt_zero n9))), hP, hD, hS, lv_sub hl [0, 1, 2] rfl⟩
    obtain ⟨n, rfl⟩ : ∃ z9, z9 = x9 := ⟨_, rfl⟩
    obtain ⟨hi15_0, hi15_1, hP, hD, hS, hl⟩ := hI
    have hi15_0 : n ≤ s1 := hi15_0
    have hi15_1 : ∀ n9, n9 < n → ∀ i9, i9 < 13 → rec1 ((n9 * 17) + i9) = rf ((el n9 * wd) + i9) := hi15_1
    have hP : va_P D vwCl [(h0, .inr (2, [v0, v1, v2, .int (nI s1), .ref a4])), (a4, .inl (cI, rr1, .inl rec1)), (x0, .inr (1, [u0, .int (nI es), .ref a2, u3, u4, u5, .int (nI wd), .ref a7, u8, u9])), (a2, .inl (cI, 3000, .inl ef)), (a7, .inl (cI, rl, .inl rf))] H := hP
    have hD : va_D A [(h0, .inr (2, [v0, v1, v2, .int (nI s1), .ref a4])), (a4, .inl (cI, rr1, .inl rec1)), (x0, .inr (1, [u0, .int (nI es), .ref a2, u3, u4, u5, .int (nI wd), .ref a7, u8, u9])), (a2, .inl (cI, 3000, .inl ef)), (a7, .inl (cI, rl, .inl rf))] := hD
    have hS : va_S A s.heap H locs := hS
    have hl : lv_has ls 4 [(2, .int (nI n)), (0, .ref h0), (1, .ref x0)] := hl
    refine lv_iload_n hx hb dX2_isSame_15 rfl (lv_at hl 0 rfl) ?_
    refine lv_aload_n hx hb dX2_isSame_16 rfl (lv_at hl 1 rfl) ?_
    refine va_get (D := D) (ci := 2) (v := .int (nI s1)) (C := RX2) (T := TX2) (N := 5) hx hb hts (fun _ h => List.mem_cons_of_mem _ (List.mem_append_left _ (List.mem_append_right _ h))) hown hK hP 0 rfl rfl 3 (by decide) (hts (.fieldLink RX2 34 "LitmusHall$Findings" "size" "I") (by decide +kernel)) (fun _ h9 => h9) rfl dX2_isSame_17 ?_
    refine gy_ge (a := n) (b := s1) (tgt := 65) hx hb (by omega) (by omega) dX2_isSame_20 (by decide) (fun c_2 => ?_) (fun c_2 => ?_)
    · refine lv_iconst (v := 1) hx hb dX2_isSame_65 (by decide) ?_
      exact gx_zret (w' := [(h0, .inr (2, [v0, v1, v2, .int (nI s1), .ref a4])), (a4, .inl (cI, rr1, .inl rec1)), (x0, .inr (1, [u0, .int (nI es), .ref a2, u3, u4, u5, .int (nI wd), .ref a7, u8, u9])), (a2, .inl (cI, 3000, .inl ef)), (a7, .inl (cI, rl, .inl rf))]) hx hb hr hlk hK hP hD hS (Nat.le_of_ble_eq_true rfl) (Nat.le_of_ble_eq_true rfl) dX2_isSame_66 rfl ⟨1, (by decide), (Or.inl ⟨rfl, by omega, fun n9 h9 => hi15_1 n9 (by omega)⟩), rfl, rfl⟩
    · refine lv_iconst (v := 0) hx hb dX2_isSame_23 (by decide) ?_
      refine lv_istore_n (lv' := [(3, .int 0), (2, .int (nI n)), (0, .ref h0), (1, .ref x0)]) hx hb dX2_isSame_24 rfl hl (by decide) rfl (fun ls hl => ?_)
      refine gy_loop0 (I := fun (x9 : Nat) H locs ls => (x9 ≤ 13) ∧ (∀ i9, i9 < x9 → rec1 ((n * 17) + i9) = rf ((el n * wd) + i9)) ∧ va_P D vwCl [(h0, .inr (2, [v0, v1, v2, .int (nI s1), .ref a4])), (a4, .inl (cI, rr1, .inl rec1)), (x0, .inr (1, [u0, .int (nI es), .ref a2, u3, u4, u5, .int (nI wd), .ref a7, u8, u9])), (a2, .inl (cI, 3000, .inl ef)), (a7, .inl (cI, rl, .inl rf))] H ∧ va_D A [(h0, .inr (2, [v0, v1, v2, .int (nI s1), .ref a4])), (a4, .inl (cI, rr1, .inl rec1)), (x0, .inr (1, [u0, .int (nI es), .ref a2, u3, u4, u5, .int (nI wd), .ref a7, u8, u9])), (a2, .inl (cI, 3000, .inl ef)), (a7, .inl (cI, rl, .inl rf))] ∧ va_S A s.heap H locs ∧ lv_has ls 4 [(3, .int (nI x9)), (2, .int (nI n)), (0, .ref h0), (1, .ref x0)]) (μ := fun (x9 : Nat) => 13 - x9) (fun x9 H locs ls hI ih25 => ?_) 0 ⟨(by show 0 ≤ 13; exact Nat.le_of_ble_eq_true rfl), (by show ∀ i9, i9 < 0 → rec1 ((n * 17) + i9) = rf ((el n * wd) + i9); exact (fun i9 h => absurd h (Nat.not_lt_zero i9))), hP, hD, hS, lv_sub hl [0, 1, 2, 3] rfl⟩
      obtain ⟨i, rfl⟩ : ∃ z9, z9 = x9 := ⟨_, rfl⟩
      obtain ⟨hi25_0, hi25_1, hP, hD, hS, hl⟩ := hI
      have hi25_0 : i ≤ 13 := hi25_0
      have hi25_1 : ∀ i9, i9 < i → rec1 ((n * 17) + i9) = rf ((el n * wd) + i9) := hi25_1
      have hP : va_P D vwCl [(h0, .inr (2, [v0, v1, v2, .int (nI s1), .ref a4])), (a4, .inl (cI, rr1, .inl rec1)), (x0, .inr (1, [u0, .int (nI es), .ref a2, u3, u4, u5, .int (nI wd), .ref a7, u8, u9])), (a2, .inl (cI, 3000, .inl ef)), (a7, .inl (cI, rl, .inl rf))] H := hP
      have hD : va_D A [(h0, .inr (2, [v0, v1, v2, .int (nI s1), .ref a4])), (a4, .inl (cI, rr1, .inl rec1)), (x0, .inr (1, [u0, .int (nI es), .ref a2, u3, u4, u5, .int (nI wd), .ref a7, u8, u9])), (a2, .inl (cI, 3000, .inl ef)), (a7, .inl (cI, rl, .inl rf))] := hD
      have hS : va_S A s.heap H locs := hS
      have hl : lv_has ls 4 [(3, .int (nI i)), (2, .int (nI n)), (0, .ref h0), (1, .ref x0)] := hl
      refine lv_iload_n hx hb dX2_isSame_25 rfl (lv_at hl 0 rfl) ?_
      refine lv_bipush (v := 13) hx hb dX2_isSame_26 (by decide) ?_
      refine gy_ge (a := i) (b := 13) (tgt := 59) hx hb (by omega) (by omega) dX2_isSame_28 (by decide) (fun c_3 => ?_) (fun c_3 => ?_)
      · refine lv_iinc (v := nI (n + 1)) (lv' := [(2, .int (nI (n + 1))), (3, .int (nI i)), (0, .ref h0), (1, .ref x0)]) hx hb dX2_isSame_59 hl (k := 1) rfl (nI_add n 1) (by decide) rfl (fun ls hl => ?_)
        refine lv_goto (tgt := 15) hx hb dX2_isSame_62 (by decide) ?_
        exact ih15 (n + 1) H locs ls ⟨(by show (n + 1) ≤ s1; omega), (by show ∀ n9, n9 < (n + 1) → ∀ i9, i9 < 13 → rec1 ((n9 * 17) + i9) = rf ((el n9 * wd) + i9); exact (fun n9 h9 => by by_cases e9 : n9 = n; (subst e9; exact fun i9 h8 => hi25_1 i9 (by omega)); exact hi15_1 n9 (by omega))), hP, hD, hS, lv_sub hl [0, 2, 3] rfl⟩ (by show s1 - (n + 1) < s1 - n; omega)
      · refine lv_aload_n hx hb dX2_isSame_31 rfl (lv_at hl 2 rfl) ?_
        refine lv_iload_n hx hb dX2_isSame_32 rfl (lv_at hl 1 rfl) ?_
        refine lv_iload_n hx hb dX2_isSame_33 rfl (lv_at hl 0 rfl) ?_
        refine gx_goi (wc := [(h0, .inr (2, [v0, v1, v2, .int (nI s1), .ref a4])), (a4, .inl (cI, rr1, .inl rec1))]) (wr := [(x0, .inr (1, [u0, .int (nI es), .ref a2, u3, u4, u5, .int (nI wd), .ref a7, u8, u9])), (a2, .inl (cI, 3000, .inl ef)), (a7, .inl (cI, rl, .inl rf))]) (va_runV (As := [.int (nI n), .int (nI i)]) (rest := []) ⟨hx, hb, hml, hown, hts⟩ (c_findInt l D cI cB cZ h0 a4 (v0) (v1) (v2) (.int (nI s1)) rr1 rec1 n i (by omega) (by omega) _) (cwV 2 hts gP_x_fSame__c_findInt rfl rfl rfl (by decide +kernel) ⟨Nat.le_of_ble_eq_true rfl, Nat.le_of_ble_eq_true rfl⟩) (gx_preV (ci := 2) (q0 := 0) hK gN.nil hP hD [0, 1] rfl rfl rfl rfl) rfl rfl hl.1 rfl (lv_room (Nat.le_of_ble_eq_true rfl)) dX2_isSame_34 ⟨Nat.le_of_ble_eq_true rfl, Nat.le_of_ble_eq_true rfl⟩) hP hD hS hA [0, 1] [2, 3, 4] rfl rfl rfl (by decide) (fun r1 w1 H locs hp hP hD hS => ?_)
        obtain ⟨h9, rfl⟩ := hp
        have h9 := h9.symm
        subst h9
        refine lv_aload_n hx hb dX2_isSame_37 rfl (lv_at hl 3 rfl) ?_
        refine lv_aload_n hx hb dX2_isSame_38 rfl (lv_at hl 3 rfl) ?_
        refine va_get (D := D) (ci := 1) (v := .ref a2) (C := RX1) (T := TX1) (N := 10) hx hb hts (fun _ h => List.mem_cons_of_mem _ (List.mem_append_left _ (List.mem_append_left _ (List.mem_append_right _ h)))) hown hK hP 0 rfl rfl 2 (by decide) (hts (.fieldLink RX2 45 "LitmusHall$Explorer" "ends" "[I") (by decide +kernel)) (fun _ h9 => h9) rfl dX2_isSame_39 ?_
        refine lv_iload_n hx hb dX2_isSame_42 rfl (lv_at hl 1 rfl) ?_
        obtain ⟨q, hq1, hq2⟩ := hen n (by omega)
        have hrow := gy_row (n := q) (sz := sz) (wd := wd) hq1
        have hqe : q = el n := (nI_eq (by omega) (by have := (hel n (by omega)).2; omega)).mp (hq2.symm.trans (hel n (by omega)).1)
        refine gy_ild (i := n) hx hb hK hP 1 rfl (by omega) (by omega) dX2_isSame_43 ?_
        refine gx_top (y := nI q) hq2 ?_
        refine lv_iload_n hx hb dX2_isSame_44 rfl (lv_at hl 0 rfl) ?_
        refine gx_goi (wc := [(x0, .inr (1, [u0, .int (nI es), .ref a2, u3, u4, u5, .int (nI wd), .ref a7, u8, u9])), (a7, .inl (cI, rl, .inl rf))]) (wr := [(a2, .inl (cI, 3000, .inl ef)), (h0, .inr (2, [v0, v1, v2, .int (nI s1), .ref a4])), (a4, .inl (cI, rr1, .inl rec1))]) (va_runV (As := [.int (nI q), .int (nI i)]) (rest := [.int (rec1 ((n * 17) + i))]) ⟨hx, hb, hml, hown, hts⟩ (x_xInt l D cI cB cZ x0 a7 (u0) (.int (nI es)) (.ref a2) (u3) (u4) (u5) (u8) (u9) wd rl rf q i (by omega) (by omega) (by omega) (by omega) (by omega) _) (cwV 2 hts gP_x_fSame__x_xInt rfl rfl rfl (by decide +kernel) ⟨Nat.le_of_ble_eq_true rfl, Nat.le_of_ble_eq_true rfl⟩) (gx_preV (ci := 1) (q0 := 0) hK gN.nil hP hD [0, 2] rfl rfl rfl rfl) rfl rfl hl.1 rfl (lv_room (Nat.le_of_ble_eq_true rfl)) dX2_isSame_45 ⟨Nat.le_of_ble_eq_true rfl, Nat.le_of_ble_eq_true rfl⟩) hP hD hS hA [0, 2] [1, 3, 4] rfl rfl rfl (by decide) (fun r1 w1 H locs hp hP hD hS => ?_)
        obtain ⟨e_4, hx45_0, h9, rfl⟩ := hp
        have h9 := h9.symm
        subst h9
        have hx45_0 : e_4 = rf ((q * wd) + i) := hx45_0
        refine lv_icmp_eq (tgt := 53) hx hb dX2_isSame_48 (by decide) (fun c_5 => ?_) (fun c_5 => ?_)
        · refine lv_iinc (v := nI (i + 1)) (lv' := [(3, .int (nI (i + 1))), (2, .int (nI n)), (0, .ref h0), (1, .ref x0)]) hx hb dX2_isSame_53 hl (k := 0) rfl (nI_add i 1) (by decide) rfl (fun ls hl => ?_)
          refine lv_goto (tgt := 25) hx hb dX2_isSame_56 (by decide) ?_
          have hP := hP.sub (ws' := [(h0, .inr (2, [v0, v1, v2, .int (nI s1), .ref a4])), (a4, .inl (cI, rr1, .inl rec1)), (x0, .inr (1, [u0, .int (nI es), .ref a2, u3, u4, u5, .int (nI wd), .ref a7, u8, u9])), (a2, .inl (cI, 3000, .inl ef)), (a7, .inl (cI, rl, .inl rf))]) [1, 2, 3, 0, 4] rfl
          have hD := hD.sub (ws' := [(h0, .inr (2, [v0, v1, v2, .int (nI s1), .ref a4])), (a4, .inl (cI, rr1, .inl rec1)), (x0, .inr (1, [u0, .int (nI es), .ref a2, u3, u4, u5, .int (nI wd), .ref a7, u8, u9])), (a2, .inl (cI, 3000, .inl ef)), (a7, .inl (cI, rl, .inl rf))]) [1, 2, 3, 0, 4] (by decide) rfl
          exact ih25 (i + 1) H locs ls ⟨(by show (i + 1) ≤ 13; omega), (by show ∀ i9, i9 < (i + 1) → rec1 ((n * 17) + i9) = rf ((el n * wd) + i9); exact (fun i9 h9 => by by_cases e9 : i9 = i; (subst e9; exact Eq.trans c_5 (by rw [hx45_0, hqe])); exact hi25_1 i9 (by omega))), hP, hD, hS, lv_sub hl [0, 1, 2, 3] rfl⟩ (by show 13 - (i + 1) < 13 - i; omega)
        · refine lv_iconst (v := 0) hx hb dX2_isSame_51 (by decide) ?_
          have hP := hP.sub (ws' := [(h0, .inr (2, [v0, v1, v2, .int (nI s1), .ref a4])), (a4, .inl (cI, rr1, .inl rec1)), (x0, .inr (1, [u0, .int (nI es), .ref a2, u3, u4, u5, .int (nI wd), .ref a7, u8, u9])), (a2, .inl (cI, 3000, .inl ef)), (a7, .inl (cI, rl, .inl rf))]) [1, 2, 3, 0, 4] rfl
          have hD := hD.sub (ws' := [(h0, .inr (2, [v0, v1, v2, .int (nI s1), .ref a4])), (a4, .inl (cI, rr1, .inl rec1)), (x0, .inr (1, [u0, .int (nI es), .ref a2, u3, u4, u5, .int (nI wd), .ref a7, u8, u9])), (a2, .inl (cI, 3000, .inl ef)), (a7, .inl (cI, rl, .inl rf))]) [1, 2, 3, 0, 4] (by decide) rfl
          exact gx_zret (w' := [(h0, .inr (2, [v0, v1, v2, .int (nI s1), .ref a4])), (a4, .inl (cI, rr1, .inl rec1)), (x0, .inr (1, [u0, .int (nI es), .ref a2, u3, u4, u5, .int (nI wd), .ref a7, u8, u9])), (a2, .inl (cI, 3000, .inl ef)), (a7, .inl (cI, rl, .inl rf))]) hx hb hr hlk hK hP hD hS (Nat.le_of_ble_eq_true rfl) (Nat.le_of_ble_eq_true rfl) dX2_isSame_52 rfl ⟨0, (by decide), (Or.inr ⟨rfl, fun q9 => c_5 ((q9.2 n (by omega) i (by omega)).trans (by rw [hx45_0, hqe]))⟩), rfl, rfl⟩
  · refine lv_iconst (v := 0) hx hb dX2_isSame_11 (by decide) ?_
    exact gx_zret (w' := [(h0, .inr (2, [v0, v1, v2, .int (nI s1), .ref a4])), (a4, .inl (cI, rr1, .inl rec1)), (x0, .inr (1, [u0, .int (nI es), .ref a2, u3, u4, u5, .int (nI wd), .ref a7, u8, u9])), (a2, .inl (cI, 3000, .inl ef)), (a7, .inl (cI, rl, .inl rf))]) hx hb hr hlk hK hP hD hS (Nat.le_of_ble_eq_true rfl) (Nat.le_of_ble_eq_true rfl) dX2_isSame_12 rfl ⟨0, (by decide), (Or.inr ⟨rfl, fun q => by have := q.1; omega⟩), rfl, rfl⟩
