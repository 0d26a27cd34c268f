
def wsP_x_insInAll : List Cond := .code yX4_insInAll cX4_insInAll 3 (some .int) :: (([.fieldLink RX4 21 "LitmusHall$Program" "cores" "I", .fieldLink RX4 9 "LitmusHall$Program" "lengths" "[I"] ++ wsX40) ++ [])
theorem gW_x_insInAll : wsP_x_insInAll.all goodWord = true := by unfold wsP_x_insInAll; exact gw_mk (by decide +kernel) rfl
set_option maxHeartbeats 4000000 in
set_option maxRecDepth 100000 in
theorem x_insInAll (l : Launch) (D : va_G) (cI cB cZ : ClassId) (h0 : Nat) (a1 : Nat) (v2 : Value) (v3 : Value) (L : Nat → Nat) (n : Nat) (hn : n ≤ 3) (hL : ∀ k, k < 3 → L k ≤ 8) : gMi l yX4_insInAll wsP_x_insInAll ({ frames := 0, cells := 0, slots := 0, locals := 0 }) D cI cB cZ [] [.ref h0] [(h0, .inr (4, [.int (nI n), .ref a1, v2, v3])), (a1, .inl (cI, 3, .inl (fun j => nI (L j))))] (fun r9 w9 => ∃ t : Nat, (t ≤ 24) ∧ (t = gS1 L n) ∧ r9 = (nI t) ∧ w9 = [(h0, .inr (4, [.int (nI n), .ref a1, v2, v3])), (a1, .inl (cI, 3, .inl (fun j => nI (L j))))]) := by
  refine gMi.of (cc := cX4_insInAll) (maxL := 3) (ret := (some .int)) (by decide) rfl (Nat.le_of_ble_eq_true rfl) (fun p e s m below meth c A ls hx hb hr hlk hml hts hown hin hA hP hK hD hS hN hl => ?_)
  have hown : s.vm.findClass RX4 = some m.cls := hown
  have hl : lv_has ls 3 [(0, .ref h0)] := hl
  refine lv_iconst (v := 0) hx hb dX4_insInAll_0 (by decide) ?_
  refine lv_istore_n (lv' := [(1, .int 0), (0, .ref h0)]) hx hb dX4_insInAll_1 rfl hl (by decide) rfl (fun ls hl => ?_)
  refine lv_iconst (v := 0) hx hb dX4_insInAll_2 (by decide) ?_
  refine lv_istore_n (lv' := [(2, .int 0), (1, .int 0), (0, .ref h0)]) hx hb dX4_insInAll_3 rfl hl (by decide) rfl (fun ls hl => ?_)
  refine gy_loop0 (I := fun (x9 : Nat × Nat) H locs ls => (x9.1 ≤ n) ∧ (x9.2 ≤ 8 * x9.1) ∧ (x9.2 = gS1 L x9.1) ∧ va_P D vwCl [(h0, .inr (4, [.int (nI n), .ref a1, v2, v3])), (a1, .inl (cI, 3, .inl (fun j => nI (L j))))] H ∧ va_D A [(h0, .inr (4, [.int (nI n), .ref a1, v2, v3])), (a1, .inl (cI, 3, .inl (fun j => nI (L j))))] ∧ va_S A s.heap H locs ∧ lv_has ls 3 [(2, .int (nI x9.1)), (1, .int (nI x9.2)), (0, .ref h0)]) (μ := fun (x9 : Nat × Nat) => n - x9.1) (fun x9 H locs ls hI ih4 => ?_) (0, 0) ⟨(by show 0 ≤ n; exact Nat.zero_le _), (by show 0 ≤ 8 * 0; exact Nat.le_of_ble_eq_true rfl), rfl, hP, hD, hS, lv_sub hl [0, 1, 2] rfl⟩
  obtain ⟨i, t⟩ := x9
  obtain ⟨hi4_0, hi4_1, hi4_2, hP, hD, hS, hl⟩ := hI
  have hi4_0 : i ≤ n := hi4_0
  have hi4_1 : t ≤ 8 * i := hi4_1
  have hi4_2 : t = gS1 L i := hi4_2
  have hP : va_P D vwCl [(h0, .inr (4, [.int (nI n), .ref a1, v2, v3])), (a1, .inl (cI, 3, .inl (fun j => nI (L j))))] H := hP
  have hD : va_D A [(h0, .inr (4, [.int (nI n), .ref a1, v2, v3])), (a1, .inl (cI, 3, .inl (fun j => nI (L j))))] := hD
  have hS : va_S A s.heap H locs := hS
  have hl : lv_has ls 3 [(2, .int (nI i)), (1, .int (nI t)), (0, .ref h0)] := hl
  refine lv_iload_n hx hb dX4_insInAll_4 rfl (lv_at hl 0 rfl) ?_
  refine lv_aload_n hx hb dX4_insInAll_5 rfl (lv_at hl 2 rfl) ?_
  refine va_get (D := D) (ci := 4) (v := .int (nI n)) (C := RX4) (T := TX4) (N := 4) hx hb hts (fun _ h => List.mem_cons_of_mem _ (List.mem_append_left _ (List.mem_append_right _ h))) hown hK hP 0 rfl rfl 0 (by decide) (hts (.fieldLink RX4 21 "LitmusHall$Program" "cores" "I") (by decide +kernel)) (fun _ h9 => h9) rfl dX4_insInAll_6 ?_
  refine gy_ge (a := i) (b := n) (tgt := 27) hx hb (by omega) (by omega) dX4_insInAll_9 (by decide) (fun c_1 => ?_) (fun c_1 => ?_)
  · refine lv_iload_n hx hb dX4_insInAll_27 rfl (lv_at hl 1 rfl) ?_
    exact gx_iret (w' := [(h0, .inr (4, [.int (nI n), .ref a1, v2, v3])), (a1, .inl (cI, 3, .inl (fun j => nI (L j))))]) hx hb hr hlk hK hP hD hS (Nat.le_of_ble_eq_true rfl) (Nat.le_of_ble_eq_true rfl) dX4_insInAll_28 ⟨t, (by omega), (by rw [show n = i by omega]; exact hi4_2), rfl, rfl⟩
  · refine lv_iload_n hx hb dX4_insInAll_12 rfl (lv_at hl 1 rfl) ?_
    refine lv_aload_n hx hb dX4_insInAll_13 rfl (lv_at hl 2 rfl) ?_
    refine va_get (D := D) (ci := 4) (v := .ref a1) (C := RX4) (T := TX4) (N := 4) hx hb hts (fun _ h => List.mem_cons_of_mem _ (List.mem_append_left _ (List.mem_append_right _ h))) hown hK hP 0 rfl rfl 1 (by decide) (hts (.fieldLink RX4 9 "LitmusHall$Program" "lengths" "[I") (by decide +kernel)) (fun _ h9 => h9) rfl dX4_insInAll_14 ?_
    refine lv_iload_n hx hb dX4_insInAll_17 rfl (lv_at hl 0 rfl) ?_
    refine gy_ild (i := i) hx hb hK hP 1 rfl (by omega) (by omega) dX4_insInAll_18 ?_
    refine gx_top (y := nI (L i)) rfl ?_
    have hL0 := hL i (by omega)
    refine lv_iadd hx hb dX4_insInAll_19 ?_
    refine gx_top (y := nI (t + (L i))) (nI_add t (L i)) ?_
    refine lv_istore_n (lv' := [(1, .int (nI (t + (L i)))), (2, .int (nI i)), (0, .ref h0)]) hx hb dX4_insInAll_20 rfl hl (by decide) rfl (fun ls hl => ?_)
    refine lv_iinc (v := nI (i + 1)) (lv' := [(2, .int (nI (i + 1))), (1, .int (nI (t + (L i)))), (0, .ref h0)]) hx hb dX4_insInAll_21 hl (k := 1) rfl (nI_add i 1) (by decide) rfl (fun ls hl => ?_)
    refine lv_goto (tgt := 4) hx hb dX4_insInAll_24 (by decide) ?_
    exact ih4 ((i + 1), (t + (L i))) H locs ls ⟨(by show (i + 1) ≤ n; omega), (by show (t + (L i)) ≤ 8 * (i + 1); omega), (by show (t + (L i)) = gS1 L (i + 1); rw [hi4_2]; rfl), hP, hD, hS, lv_sub hl [0, 1, 2] rfl⟩ (by show n - (i + 1) < n - i; omega)
def wsP_x_placesInAll : List Cond := .code yX4_placesInAll cX4_placesInAll 3 (some .int) :: (([.fieldLink RX4 21 "LitmusHall$Program" "cores" "I", .fieldLink RX4 9 "LitmusHall$Program" "lengths" "[I", .methodLink RX4 35 Lib.Math.max.name, .static Lib.Math.max.name, .initialized "java/lang/Math", .code Lib.Math.max.name Lib.Math.max.code 2 (some .int)] ++ wsX40) ++ [])
theorem gW_x_placesInAll : wsP_x_placesInAll.all goodWord = true := by unfold wsP_x_placesInAll; exact gw_mk (by decide +kernel) rfl
set_option maxHeartbeats 4000000 in
set_option maxRecDepth 100000 in
theorem x_placesInAll (l : Launch) (D : va_G) (cI cB cZ : ClassId) (h0 : Nat) (a1 : Nat) (v2 : Value) (v3 : Value) (L : Nat → Nat) (n : Nat) (hn : n ≤ 3) (hL : ∀ k, k < 3 → L k ≤ 8) : gMi l yX4_placesInAll wsP_x_placesInAll ({ frames := 1, cells := 0, slots := 0, locals := 30 }) D cI cB cZ [] [.ref h0] [(h0, .inr (4, [.int (nI n), .ref a1, v2, v3])), (a1, .inl (cI, 3, .inl (fun j => nI (L j))))] (fun r9 w9 => ∃ t : Nat, (t ≤ 21) ∧ (t = gP1 L n) ∧ r9 = (nI t) ∧ w9 = [(h0, .inr (4, [.int (nI n), .ref a1, v2, v3])), (a1, .inl (cI, 3, .inl (fun j => nI (L j))))]) := by
  refine gMi.of (cc := cX4_placesInAll) (maxL := 3) (ret := (some .int)) (by decide) rfl (Nat.le_of_ble_eq_true rfl) (fun p e s m below meth c A ls hx hb hr hlk hml hts hown hin hA hP hK hD hS hN hl => ?_)
  have hown : s.vm.findClass RX4 = some m.cls := hown
  have hl : lv_has ls 3 [(0, .ref h0)] := hl
  refine lv_iconst (v := 0) hx hb dX4_placesInAll_0 (by decide) ?_
  refine lv_istore_n (lv' := [(1, .int 0), (0, .ref h0)]) hx hb dX4_placesInAll_1 rfl hl (by decide) rfl (fun ls hl => ?_)
  refine lv_iconst (v := 0) hx hb dX4_placesInAll_2 (by decide) ?_
  refine lv_istore_n (lv' := [(2, .int 0), (1, .int 0), (0, .ref h0)]) hx hb dX4_placesInAll_3 rfl hl (by decide) rfl (fun ls hl => ?_)
  refine gy_loop0 (I := fun (x9 : Nat × Nat) H locs ls => (x9.1 ≤ n) ∧ (x9.2 ≤ 7 * x9.1) ∧ (x9.2 = gP1 L x9.1) ∧ va_P D vwCl [(h0, .inr (4, [.int (nI n), .ref a1, v2, v3])), (a1, .inl (cI, 3, .inl (fun j => nI (L j))))] H ∧ va_D A [(h0, .inr (4, [.int (nI n), .ref a1, v2, v3])), (a1, .inl (cI, 3, .inl (fun j => nI (L j))))] ∧ va_S A s.heap H locs ∧ lv_has ls 3 [(2, .int (nI x9.1)), (1, .int (nI x9.2)), (0, .ref h0)]) (μ := fun (x9 : Nat × Nat) => n - x9.1) (fun x9 H locs ls hI ih4 => ?_) (0, 0) ⟨(by show 0 ≤ n; exact Nat.zero_le _), (by show 0 ≤ 7 * 0; exact Nat.le_of_ble_eq_true rfl), rfl, hP, hD, hS, lv_sub hl [0, 1, 2] rfl⟩
  obtain ⟨i, t⟩ := x9
  obtain ⟨hi4_0, hi4_1, hi4_2, hP, hD, hS, hl⟩ := hI
  have hi4_0 : i ≤ n := hi4_0
  have hi4_1 : t ≤ 7 * i := hi4_1
  have hi4_2 : t = gP1 L i := hi4_2
  have hP : va_P D vwCl [(h0, .inr (4, [.int (nI n), .ref a1, v2, v3])), (a1, .inl (cI, 3, .inl (fun j => nI (L j))))] H := hP
  have hD : va_D A [(h0, .inr (4, [.int (nI n), .ref a1, v2, v3])), (a1, .inl (cI, 3, .inl (fun j => nI (L j))))] := hD
  have hS : va_S A s.heap H locs := hS
  have hl : lv_has ls 3 [(2, .int (nI i)), (1, .int (nI t)), (0, .ref h0)] := hl
  refine lv_iload_n hx hb dX4_placesInAll_4 rfl (lv_at hl 0 rfl) ?_
  refine lv_aload_n hx hb dX4_placesInAll_5 rfl (lv_at hl 2 rfl) ?_
  refine va_get (D := D) (ci := 4) (v := .int (nI n)) (C := RX4) (T := TX4) (N := 4) hx hb hts (fun _ h => List.mem_cons_of_mem _ (List.mem_append_left _ (List.mem_append_right _ h))) hown hK hP 0 rfl rfl 0 (by decide) (hts (.fieldLink RX4 21 "LitmusHall$Program" "cores" "I") (by decide +kernel)) (fun _ h9 => h9) rfl dX4_placesInAll_6 ?_
  refine gy_ge (a := i) (b := n) (tgt := 33) hx hb (by omega) (by omega) dX4_placesInAll_9 (by decide) (fun c_1 => ?_) (fun c_1 => ?_)
  · refine lv_iload_n hx hb dX4_placesInAll_33 rfl (lv_at hl 1 rfl) ?_
    exact gx_iret (w' := [(h0, .inr (4, [.int (nI n), .ref a1, v2, v3])), (a1, .inl (cI, 3, .inl (fun j => nI (L j))))]) hx hb hr hlk hK hP hD hS (Nat.le_of_ble_eq_true rfl) (Nat.le_of_ble_eq_true rfl) dX4_placesInAll_34 ⟨t, (by omega), (by rw [show n = i by omega]; exact hi4_2), rfl, rfl⟩
  · refine lv_iload_n hx hb dX4_placesInAll_12 rfl (lv_at hl 1 rfl) ?_
    refine lv_iconst (v := 0) hx hb dX4_placesInAll_13 (by decide) ?_
    refine lv_aload_n hx hb dX4_placesInAll_14 rfl (lv_at hl 2 rfl) ?_
    refine va_get (D := D) (ci := 4) (v := .ref a1) (C := RX4) (T := TX4) (N := 4) hx hb hts (fun _ h => List.mem_cons_of_mem _ (List.mem_append_left _ (List.mem_append_right _ h))) hown hK hP 0 rfl rfl 1 (by decide) (hts (.fieldLink RX4 9 "LitmusHall$Program" "lengths" "[I") (by decide +kernel)) (fun _ h9 => h9) rfl dX4_placesInAll_15 ?_
    refine lv_iload_n hx hb dX4_placesInAll_18 rfl (lv_at hl 0 rfl) ?_
    refine gy_ild (i := i) hx hb hK hP 1 rfl (by omega) (by omega) dX4_placesInAll_19 ?_
    refine gx_top (y := nI (L i)) rfl ?_
    have hL0 := hL i (by omega)
    refine lv_iconst (v := 1) hx hb dX4_placesInAll_20 (by decide) ?_
    refine lv_isub hx hb dX4_placesInAll_21 ?_
    refine va_mmax hx hb (hml.trans hl.1.symm) hown (hts (.methodLink RX4 35 Lib.Math.max.name) (by decide +kernel)) (hts (.static Lib.Math.max.name) (by decide +kernel)) (hts (.initialized "java/lang/Math") (by decide +kernel)) (hts (.code Lib.Math.max.name Lib.Math.max.code 2 (some .int)) (by decide +kernel)) (Nat.le_of_ble_eq_true rfl) (Nat.le_of_ble_eq_true rfl) (Nat.le_of_ble_eq_true rfl) (Nat.le_of_ble_eq_true rfl) dX4_placesInAll_22 ?_
    refine gx_top (y := nI (L i - 1)) (gy_max0 (by omega)) ?_
    refine lv_iadd hx hb dX4_placesInAll_25 ?_
    refine gx_top (y := nI (t + (L i - 1))) (nI_add t (L i - 1)) ?_
    refine lv_istore_n (lv' := [(1, .int (nI (t + (L i - 1)))), (2, .int (nI i)), (0, .ref h0)]) hx hb dX4_placesInAll_26 rfl hl (by decide) rfl (fun ls hl => ?_)
    refine lv_iinc (v := nI (i + 1)) (lv' := [(2, .int (nI (i + 1))), (1, .int (nI (t + (L i - 1)))), (0, .ref h0)]) hx hb dX4_placesInAll_27 hl (k := 1) rfl (nI_add i 1) (by decide) rfl (fun ls hl => ?_)
    refine lv_goto (tgt := 4) hx hb dX4_placesInAll_30 (by decide) ?_
    exact ih4 ((i + 1), (t + (L i - 1))) H locs ls ⟨(by show (i + 1) ≤ n; omega), (by show (t + (L i - 1)) ≤ 7 * (i + 1); omega), (by show (t + (L i - 1)) = gP1 L (i + 1); rw [hi4_2]; rfl), hP, hD, hS, lv_sub hl [0, 1, 2] rfl⟩ (by show n - (i + 1) < n - i; omega)
def wsP_x_statesOr : List Cond := .code yX2_statesOrNone cX2_statesOrNone 1 (some .int) :: (([.fieldLink RX2 19 "LitmusHall$Findings" "full" "Z", .fieldLink RX2 28 "LitmusHall$Findings" "states" "I"] ++ wsX20) ++ [])
theorem gW_x_statesOr : wsP_x_statesOr.all goodWord = true := by unfold wsP_x_statesOr; exact gw_mk (by decide +kernel) rfl
set_option maxHeartbeats 4000000 in
set_option maxRecDepth 100000 in
theorem x_statesOr (l : Launch) (D : va_G) (cI cB cZ : ClassId) (h0 : Nat) (fl : Int32) (st : Nat) (s1 : Nat) (v0 : Value) (v4 : Value)  : gMi l yX2_statesOrNone wsP_x_statesOr ({ frames := 0, cells := 0, slots := 0, locals := 0 }) D cI cB cZ [] [.ref h0] [(h0, .inr (2, [v0, .int fl, .int (nI st), .int (nI s1), v4]))] (fun r9 w9 => ∃ z : Int32, ((fl = 0 ∧ z = nI st) ∨ (¬ fl = 0 ∧ z = (-1))) ∧ r9 = z ∧ w9 = [(h0, .inr (2, [v0, .int fl, .int (nI st), .int (nI s1), v4]))]) := by
  refine gMi.of (cc := cX2_statesOrNone) (maxL := 1) (ret := (some .int)) (by decide) rfl (Nat.le_of_ble_eq_true rfl) (fun p e s m below meth c A ls hx hb hr hlk hml hts hown hin hA hP hK hD hS hN hl => ?_)
  have hown : s.vm.findClass RX2 = some m.cls := hown
  have hl : lv_has ls 1 [(0, .ref h0)] := hl
  refine lv_aload_n hx hb dX2_statesOrNone_0 rfl (lv_at hl 0 rfl) ?_
  refine va_get (D := D) (ci := 2) (v := .int fl) (C := RX2) (T := TX2) (N := 5) hx hb hts (fun _ h => List.mem_cons_of_mem _ (List.mem_append_left _ (List.mem_append_right _ h))) hown hK hP 0 rfl rfl 1 (by decide) (hts (.fieldLink RX2 19 "LitmusHall$Findings" "full" "Z") (by decide +kernel)) (fun _ h9 => h9) rfl dX2_statesOrNone_1 ?_
  refine lv_if_eq (tgt := 11) hx hb dX2_statesOrNone_4 (by decide) (fun c_1 => ?_) (fun c_1 => ?_)
  · refine lv_aload_n hx hb dX2_statesOrNone_11 rfl (lv_at hl 0 rfl) ?_
    refine va_get (D := D) (ci := 2) (v := .int (nI st)) (C := RX2) (T := TX2) (N := 5) hx hb hts (fun _ h => List.mem_cons_of_mem _ (List.mem_append_left _ (List.mem_append_right _ h))) hown hK hP 0 rfl rfl 2 (by decide) (hts (.fieldLink RX2 28 "LitmusHall$Findings" "states" "I") (by decide +kernel)) (fun _ h9 => h9) rfl dX2_statesOrNone_12 ?_
    exact gx_iret (w' := [(h0, .inr (2, [v0, .int fl, .int (nI st), .int (nI s1), v4]))]) hx hb hr hlk hK hP hD hS (Nat.le_of_ble_eq_true rfl) (Nat.le_of_ble_eq_true rfl) dX2_statesOrNone_15 ⟨(nI st), (by first | exact Or.inl ⟨c_1, rfl⟩ | exact Or.inr ⟨c_1, rfl⟩), rfl, rfl⟩
  · refine lv_iconst (v := (-1)) hx hb dX2_statesOrNone_7 (by decide) ?_
    refine lv_goto (tgt := 15) hx hb dX2_statesOrNone_8 (by decide) ?_
    exact gx_iret (w' := [(h0, .inr (2, [v0, .int fl, .int (nI st), .int (nI s1), v4]))]) hx hb hr hlk hK hP hD hS (Nat.le_of_ble_eq_true rfl) (Nat.le_of_ble_eq_true rfl) dX2_statesOrNone_15 ⟨(-1), (by first | exact Or.inl ⟨c_1, rfl⟩ | exact Or.inr ⟨c_1, rfl⟩), rfl, rfl⟩
def wsP_x_sizeOr : List Cond := .code yX2_sizeOrNone cX2_sizeOrNone 1 (some .int) :: (([.fieldLink RX2 19 "LitmusHall$Findings" "full" "Z", .fieldLink RX2 34 "LitmusHall$Findings" "size" "I"] ++ wsX20) ++ [])
theorem gW_x_sizeOr : wsP_x_sizeOr.all goodWord = true := by unfold wsP_x_sizeOr; exact gw_mk (by decide +kernel) rfl
set_option maxHeartbeats 4000000 in
set_option maxRecDepth 100000 in
theorem x_sizeOr (l : Launch) (D : va_G) (cI cB cZ : ClassId) (h0 : Nat) (fl : Int32) (st : Nat) (s1 : Nat) (v0 : Value) (v4 : Value)  : gMi l yX2_sizeOrNone wsP_x_sizeOr ({ frames := 0, cells := 0, slots := 0, locals := 0 }) D cI cB cZ [] [.ref h0] [(h0, .inr (2, [v0, .int fl, .int (nI st), .int (nI s1), v4]))] (fun r9 w9 => ∃ z : Int32, ((fl = 0 ∧ z = nI s1) ∨ (¬ fl = 0 ∧ z = (-1))) ∧ r9 = z ∧ w9 = [(h0, .inr (2, [v0, .int fl, .int (nI st), .int (nI s1), v4]))]) := by
  refine gMi.of (cc := cX2_sizeOrNone) (maxL := 1) (ret := (some .int)) (by decide) rfl (Nat.le_of_ble_eq_true rfl) (fun p e s m below meth c A ls hx hb hr hlk hml hts hown hin hA hP hK hD hS hN hl => ?_)
  have hown : s.vm.findClass RX2 = some m.cls := hown
  have hl : lv_has ls 1 [(0, .ref h0)] := hl
  refine lv_aload_n hx hb dX2_sizeOrNone_0 rfl (lv_at hl 0 rfl) ?_
  refine va_get (D := D) (ci := 2) (v := .int fl) (C := RX2) (T := TX2) (N := 5) hx hb hts (fun _ h => List.mem_cons_of_mem _ (List.mem_append_left _ (List.mem_append_right _ h))) hown hK hP 0 rfl rfl 1 (by decide) (hts (.fieldLink RX2 19 "LitmusHall$Findings" "full" "Z") (by decide +kernel)) (fun _ h9 => h9) rfl dX2_sizeOrNone_1 ?_
  refine lv_if_eq (tgt := 11) hx hb dX2_sizeOrNone_4 (by decide) (fun c_1 => ?_) (fun c_1 => ?_)
  · refine lv_aload_n hx hb dX2_sizeOrNone_11 rfl (lv_at hl 0 rfl) ?_
    refine va_get (D := D) (ci := 2) (v := .int (nI s1)) (C := RX2) (T := TX2) (N := 5) hx hb hts (fun _ h => List.mem_cons_of_mem _ (List.mem_append_left _ (List.mem_append_right _ h))) hown hK hP 0 rfl rfl 3 (by decide) (hts (.fieldLink RX2 34 "LitmusHall$Findings" "size" "I") (by decide +kernel)) (fun _ h9 => h9) rfl dX2_sizeOrNone_12 ?_
    exact gx_iret (w' := [(h0, .inr (2, [v0, .int fl, .int (nI st), .int (nI s1), v4]))]) hx hb hr hlk hK hP hD hS (Nat.le_of_ble_eq_true rfl) (Nat.le_of_ble_eq_true rfl) dX2_sizeOrNone_15 ⟨(nI s1), (by first | exact Or.inl ⟨c_1, rfl⟩ | exact Or.inr ⟨c_1, rfl⟩), rfl, rfl⟩
  · refine lv_iconst (v := (-1)) hx hb dX2_sizeOrNone_7 (by decide) ?_
    refine lv_goto (tgt := 15) hx hb dX2_sizeOrNone_8 (by decide) ?_
    exact gx_iret (w' := [(h0, .inr (2, [v0, .int fl, .int (nI st), .int (nI s1), v4]))]) hx hb hr hlk hK hP hD hS (Nat.le_of_ble_eq_true rfl) (Nat.le_of_ble_eq_true rfl) dX2_sizeOrNone_15 ⟨(-1), (by first | exact Or.inl ⟨c_1, rfl⟩ | exact Or.inr ⟨c_1, rfl⟩), rfl, rfl⟩
