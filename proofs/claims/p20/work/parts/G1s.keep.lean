
def wsP_x_hashOf : List Cond := .code yX1_hashOf cX1_hashOf 4 (some .int) :: (([.fieldLink RX1 28 "LitmusHall$Explorer" "width" "I", .constant RX1 105 (-2048144789)] ++ wsX10) ++ [])
theorem gW_x_hashOf : wsP_x_hashOf.all goodWord = true := by unfold wsP_x_hashOf; exact gw_mk (by decide +kernel) rfl
set_option maxHeartbeats 4000000 in
set_option maxRecDepth 100000 in
theorem x_hashOf (l : Launch) (D : va_G) (cI cB cZ : ClassId) (h0 : Nat) (a : Nat) (v0 : Value) (v1 : Value) (v2 : Value) (v3 : Value) (v4 : Value) (v5 : Value) (v7 : Value) (v8 : Value) (v9 : Value) (wd : Nat) (f : Nat → Int32) (hw16 : 16 ≤ wd) (hw34 : wd ≤ 34) : gMi l yX1_hashOf wsP_x_hashOf ({ frames := 0, cells := 0, slots := 0, locals := 0 }) D cI cB cZ [] [.ref h0, .ref a] [(h0, .inr (1, [v0, v1, v2, v3, v4, v5, .int (nI wd), v7, v8, v9])), (a, .inl (cI, 34, .inl f))] (fun r9 w9 => ∃ z : Int32, (z = gHs f wd) ∧ r9 = z ∧ w9 = [(h0, .inr (1, [v0, v1, v2, v3, v4, v5, .int (nI wd), v7, v8, v9])), (a, .inl (cI, 34, .inl f))]) := by
  refine gMi.of (cc := cX1_hashOf) (maxL := 4) (ret := (some .int)) (by decide) rfl (Nat.le_of_ble_eq_true rfl) (fun p e s m below meth c A ls hx hb hr hlk hml hts hown hin hA hP hK hD hS hN hl => ?_)
  have hown : s.vm.findClass RX1 = some m.cls := hown
  have hl : lv_has ls 4 [(0, .ref h0), (1, .ref a)] := hl
  refine lv_iconst (v := 0) hx hb dX1_hashOf_0 (by decide) ?_
  refine lv_istore_n (lv' := [(2, .int 0), (0, .ref h0), (1, .ref a)]) hx hb dX1_hashOf_1 rfl hl (by decide) rfl (fun ls hl => ?_)
  refine lv_iconst (v := 0) hx hb dX1_hashOf_2 (by decide) ?_
  refine lv_istore_n (lv' := [(3, .int 0), (2, .int 0), (0, .ref h0), (1, .ref a)]) hx hb dX1_hashOf_3 rfl hl (by decide) rfl (fun ls hl => ?_)
  refine gy_loop0 (I := fun (x9 : Nat × Int32) H locs ls => (x9.1 ≤ wd) ∧ (x9.2 = gH0 f x9.1) ∧ va_P D vwCl [(h0, .inr (1, [v0, v1, v2, v3, v4, v5, .int (nI wd), v7, v8, v9])), (a, .inl (cI, 34, .inl f))] H ∧ va_D A [(h0, .inr (1, [v0, v1, v2, v3, v4, v5, .int (nI wd), v7, v8, v9])), (a, .inl (cI, 34, .inl f))] ∧ va_S A s.heap H locs ∧ lv_has ls 4 [(3, .int (nI x9.1)), (2, .int x9.2), (0, .ref h0), (1, .ref a)]) (μ := fun (x9 : Nat × Int32) => wd - x9.1) (fun x9 H locs ls hI ih4 => ?_) (0, 0) ⟨(by show 0 ≤ wd; exact Nat.zero_le _), rfl, hP, hD, hS, lv_sub hl [0, 1, 2, 3] rfl⟩
  obtain ⟨i, z⟩ := x9
  obtain ⟨hi4_0, hi4_1, hP, hD, hS, hl⟩ := hI
  have hi4_0 : i ≤ wd := hi4_0
  have hi4_1 : z = gH0 f i := hi4_1
  have hP : va_P D vwCl [(h0, .inr (1, [v0, v1, v2, v3, v4, v5, .int (nI wd), v7, v8, v9])), (a, .inl (cI, 34, .inl f))] H := hP
  have hD : va_D A [(h0, .inr (1, [v0, v1, v2, v3, v4, v5, .int (nI wd), v7, v8, v9])), (a, .inl (cI, 34, .inl f))] := hD
  have hS : va_S A s.heap H locs := hS
  have hl : lv_has ls 4 [(3, .int (nI i)), (2, .int z), (0, .ref h0), (1, .ref a)] := hl
  refine lv_iload_n hx hb dX1_hashOf_4 rfl (lv_at hl 0 rfl) ?_
  refine lv_aload_n hx hb dX1_hashOf_5 rfl (lv_at hl 2 rfl) ?_
  refine va_get (D := D) (ci := 1) (v := .int (nI wd)) (C := RX1) (T := TX1) (N := 10) hx hb hts (fun _ h => List.mem_cons_of_mem _ (List.mem_append_left _ (List.mem_append_right _ h))) hown hK hP 0 rfl rfl 6 (by decide) (hts (.fieldLink RX1 28 "LitmusHall$Explorer" "width" "I") (by decide +kernel)) (fun _ h9 => h9) rfl dX1_hashOf_6 ?_
  refine gy_ge (a := i) (b := wd) (tgt := 27) hx hb (by omega) (by omega) dX1_hashOf_9 (by decide) (fun c_1 => ?_) (fun c_1 => ?_)
  · refine lv_iload_n hx hb dX1_hashOf_27 rfl (lv_at hl 1 rfl) ?_
    refine lv_iload_n hx hb dX1_hashOf_28 rfl (lv_at hl 1 rfl) ?_
    refine lv_bipush (v := 16) hx hb dX1_hashOf_29 (by decide) ?_
    refine lv_iushr (v := ((z).toUInt32 >>> ((16 : Int32).toUInt32 &&& Int32.toUInt32 31)).toInt32) hx hb dX1_hashOf_31 rfl ?_
    refine lv_ixor hx hb dX1_hashOf_32 ?_
    refine lv_ldc hx hb hown (hts (.constant RX1 105 (-2048144789)) (by decide +kernel)) dX1_hashOf_33 ?_
    refine lv_imul hx hb dX1_hashOf_35 ?_
    refine lv_istore_n (lv' := [(2, .int ((z ^^^ (((z).toUInt32 >>> ((16 : Int32).toUInt32 &&& Int32.toUInt32 31)).toInt32)) * (-2048144789))), (3, .int (nI i)), (0, .ref h0), (1, .ref a)]) hx hb dX1_hashOf_36 rfl hl (by decide) rfl (fun ls hl => ?_)
    refine lv_iload_n hx hb dX1_hashOf_37 rfl (lv_at hl 0 rfl) ?_
    refine lv_iload_n hx hb dX1_hashOf_38 rfl (lv_at hl 0 rfl) ?_
    refine lv_bipush (v := 13) hx hb dX1_hashOf_39 (by decide) ?_
    refine lv_iushr (v := (((z ^^^ (((z).toUInt32 >>> ((16 : Int32).toUInt32 &&& Int32.toUInt32 31)).toInt32)) * (-2048144789)).toUInt32 >>> ((13 : Int32).toUInt32 &&& Int32.toUInt32 31)).toInt32) hx hb dX1_hashOf_41 rfl ?_
    refine lv_ixor hx hb dX1_hashOf_42 ?_
    exact gx_iret (w' := [(h0, .inr (1, [v0, v1, v2, v3, v4, v5, .int (nI wd), v7, v8, v9])), (a, .inl (cI, 34, .inl f))]) hx hb hr hlk hK hP hD hS (Nat.le_of_ble_eq_true rfl) (Nat.le_of_ble_eq_true rfl) dX1_hashOf_43 ⟨(((z ^^^ (((z).toUInt32 >>> ((16 : Int32).toUInt32 &&& Int32.toUInt32 31)).toInt32)) * (-2048144789)) ^^^ ((((z ^^^ (((z).toUInt32 >>> ((16 : Int32).toUInt32 &&& Int32.toUInt32 31)).toInt32)) * (-2048144789)).toUInt32 >>> ((13 : Int32).toUInt32 &&& Int32.toUInt32 31)).toInt32)), (by have e9 : i = wd := (by omega); subst e9; rw [hi4_1]; rfl), rfl, rfl⟩
  · refine lv_iload_n hx hb dX1_hashOf_12 rfl (lv_at hl 1 rfl) ?_
    refine lv_bipush (v := 31) hx hb dX1_hashOf_13 (by decide) ?_
    refine lv_imul hx hb dX1_hashOf_15 ?_
    refine lv_aload_n hx hb dX1_hashOf_16 rfl (lv_at hl 3 rfl) ?_
    refine lv_iload_n hx hb dX1_hashOf_17 rfl (lv_at hl 0 rfl) ?_
    refine gy_ild (i := i) hx hb hK hP 1 rfl (by omega) (by omega) dX1_hashOf_18 ?_
    refine lv_iadd hx hb dX1_hashOf_19 ?_
    refine lv_istore_n (lv' := [(2, .int ((z * 31) + (f i))), (3, .int (nI i)), (0, .ref h0), (1, .ref a)]) hx hb dX1_hashOf_20 rfl hl (by decide) rfl (fun ls hl => ?_)
    refine lv_iinc (v := nI (i + 1)) (lv' := [(3, .int (nI (i + 1))), (2, .int ((z * 31) + (f i))), (0, .ref h0), (1, .ref a)]) hx hb dX1_hashOf_21 hl (k := 1) rfl (nI_add i 1) (by decide) rfl (fun ls hl => ?_)
    refine lv_goto (tgt := 4) hx hb dX1_hashOf_24 (by decide) ?_
    exact ih4 ((i + 1), ((z * 31) + (f i))) H locs ls ⟨(by show (i + 1) ≤ wd; omega), (by rw [hi4_1]; rfl), hP, hD, hS, lv_sub hl [0, 1, 2, 3] rfl⟩ (by show wd - (i + 1) < wd - i; omega)
def wsP_x_xSame : List Cond := .code yX1_isSame cX1_isSame 5 (some .boolean) :: (([.fieldLink RX1 28 "LitmusHall$Explorer" "width" "I", .fieldLink RX1 32 "LitmusHall$Explorer" "rows" "[I"] ++ wsX10) ++ [])
theorem gW_x_xSame : wsP_x_xSame.all goodWord = true := by unfold wsP_x_xSame; exact gw_mk (by decide +kernel) rfl
set_option maxHeartbeats 4000000 in
set_option maxRecDepth 100000 in
theorem x_xSame (l : Launch) (D : va_G) (cI cB cZ : ClassId) (h0 : Nat) (a : Nat) (a7 : Nat) (v0 : Value) (v1 : Value) (v2 : Value) (v3 : Value) (v4 : Value) (v5 : Value) (v8 : Value) (v9 : Value) (wd : Nat) (rl : Nat) (rf : Nat → Int32) (f : Nat → Int32) (n : Nat) (hw16 : 16 ≤ wd) (hw34 : wd ≤ 34) (hrl : rl ≤ 102000) (hn : n * wd + wd ≤ rl) : gMi l yX1_isSame wsP_x_xSame ({ frames := 0, cells := 0, slots := 0, locals := 0 }) D cI cB cZ [] [.ref h0, .int (nI n), .ref a] [(h0, .inr (1, [v0, v1, v2, v3, v4, v5, .int (nI wd), .ref a7, v8, v9])), (a, .inl (cI, 34, .inl f)), (a7, .inl (cI, rl, .inl rf))] (fun r9 w9 => ∃ z : Int32, (z = 0 ∨ z = 1) ∧ ((z = 1 ∧ gAg wd (gRo rf wd n) f) ∨ (z = 0 ∧ ¬ gAg wd (gRo rf wd n) f)) ∧ r9 = z ∧ w9 = [(h0, .inr (1, [v0, v1, v2, v3, v4, v5, .int (nI wd), .ref a7, v8, v9])), (a, .inl (cI, 34, .inl f)), (a7, .inl (cI, rl, .inl rf))]) := by
  refine gMi.of (cc := cX1_isSame) (maxL := 5) (ret := (some .boolean)) (by decide) rfl (Nat.le_of_ble_eq_true rfl) (fun p e s m below meth c A ls hx hb hr hlk hml hts hown hin hA hP hK hD hS hN hl => ?_)
  have hown : s.vm.findClass RX1 = some m.cls := hown
  have hl : lv_has ls 5 [(0, .ref h0), (1, .int (nI n)), (2, .ref a)] := hl
  refine lv_iload_n hx hb dX1_isSame_0 rfl (lv_at hl 1 rfl) ?_
  refine lv_aload_n hx hb dX1_isSame_1 rfl (lv_at hl 0 rfl) ?_
  refine va_get (D := D) (ci := 1) (v := .int (nI wd)) (C := RX1) (T := TX1) (N := 10) hx hb hts (fun _ h => List.mem_cons_of_mem _ (List.mem_append_left _ (List.mem_append_right _ h))) hown hK hP 0 rfl rfl 6 (by decide) (hts (.fieldLink RX1 28 "LitmusHall$Explorer" "width" "I") (by decide +kernel)) (fun _ h9 => h9) rfl dX1_isSame_2 ?_
  refine lv_imul hx hb dX1_isSame_5 ?_
  refine gx_top (y := nI (n * wd)) (pk_mul n wd) ?_
  refine lv_istore_n (lv' := [(3, .int (nI (n * wd))), (0, .ref h0), (1, .int (nI n)), (2, .ref a)]) hx hb dX1_isSame_6 rfl hl (by decide) rfl (fun ls hl => ?_)
  refine lv_iconst (v := 0) hx hb dX1_isSame_7 (by decide) ?_
  refine lv_istore (lv' := [(4, .int 0), (3, .int (nI (n * wd))), (0, .ref h0), (1, .int (nI n)), (2, .ref a)]) hx hb dX1_isSame_8 hl (by decide) rfl (fun ls hl => ?_)
  refine gy_loop0 (I := fun (x9 : Nat) H locs ls => (x9 ≤ wd) ∧ (∀ j, j < x9 → rf (n * wd + j) = f j) ∧ va_P D vwCl [(h0, .inr (1, [v0, v1, v2, v3, v4, v5, .int (nI wd), .ref a7, v8, v9])), (a, .inl (cI, 34, .inl f)), (a7, .inl (cI, rl, .inl rf))] H ∧ va_D A [(h0, .inr (1, [v0, v1, v2, v3, v4, v5, .int (nI wd), .ref a7, v8, v9])), (a, .inl (cI, 34, .inl f)), (a7, .inl (cI, rl, .inl rf))] ∧ va_S A s.heap H locs ∧ lv_has ls 5 [(4, .int (nI x9)), (3, .int (nI (n * wd))), (0, .ref h0), (1, .int (nI n)), (2, .ref a)]) (μ := fun (x9 : Nat) => wd - x9) (fun x9 H locs ls hI ih10 => ?_) 0 ⟨(by show 0 ≤ wd; exact Nat.zero_le _), (fun j h => absurd h (Nat.not_lt_zero j)), hP, hD, hS, lv_sub hl [0, 1, 2, 3, 4] rfl⟩
  obtain ⟨i, rfl⟩ : ∃ z9, z9 = x9 := ⟨_, rfl⟩
  obtain ⟨hi10_0, hi10_1, hP, hD, hS, hl⟩ := hI
  have hi10_0 : i ≤ wd := hi10_0
  have hi10_1 : ∀ j, j < i → rf (n * wd + j) = f j := hi10_1
  have hP : va_P D vwCl [(h0, .inr (1, [v0, v1, v2, v3, v4, v5, .int (nI wd), .ref a7, v8, v9])), (a, .inl (cI, 34, .inl f)), (a7, .inl (cI, rl, .inl rf))] H := hP
  have hD : va_D A [(h0, .inr (1, [v0, v1, v2, v3, v4, v5, .int (nI wd), .ref a7, v8, v9])), (a, .inl (cI, 34, .inl f)), (a7, .inl (cI, rl, .inl rf))] := hD
  have hS : va_S A s.heap H locs := hS
  have hl : lv_has ls 5 [(4, .int (nI i)), (3, .int (nI (n * wd))), (0, .ref h0), (1, .int (nI n)), (2, .ref a)] := hl
  refine lv_iload hx hb dX1_isSame_10 (lv_at hl 0 rfl) ?_
  refine lv_aload_n hx hb dX1_isSame_12 rfl (lv_at hl 2 rfl) ?_
  refine va_get (D := D) (ci := 1) (v := .int (nI wd)) (C := RX1) (T := TX1) (N := 10) hx hb hts (fun _ h => List.mem_cons_of_mem _ (List.mem_append_left _ (List.mem_append_right _ h))) hown hK hP 0 rfl rfl 6 (by decide) (hts (.fieldLink RX1 28 "LitmusHall$Explorer" "width" "I") (by decide +kernel)) (fun _ h9 => h9) rfl dX1_isSame_13 ?_
  refine gy_ge (a := i) (b := wd) (tgt := 43) hx hb (by omega) (by omega) dX1_isSame_16 (by decide) (fun c_1 => ?_) (fun c_1 => ?_)
  · refine lv_iconst (v := 1) hx hb dX1_isSame_43 (by decide) ?_
    exact gx_zret (w' := [(h0, .inr (1, [v0, v1, v2, v3, v4, v5, .int (nI wd), .ref a7, v8, v9])), (a, .inl (cI, 34, .inl f)), (a7, .inl (cI, rl, .inl rf))]) hx hb hr hlk hK hP hD hS (Nat.le_of_ble_eq_true rfl) (Nat.le_of_ble_eq_true rfl) dX1_isSame_44 rfl ⟨1, (by decide), (Or.inl ⟨rfl, fun j h => hi10_1 j (by omega)⟩), rfl, rfl⟩
  · refine lv_aload_n hx hb dX1_isSame_19 rfl (lv_at hl 2 rfl) ?_
    refine va_get (D := D) (ci := 1) (v := .ref a7) (C := RX1) (T := TX1) (N := 10) hx hb hts (fun _ h => List.mem_cons_of_mem _ (List.mem_append_left _ (List.mem_append_right _ h))) hown hK hP 0 rfl rfl 7 (by decide) (hts (.fieldLink RX1 32 "LitmusHall$Explorer" "rows" "[I") (by decide +kernel)) (fun _ h9 => h9) rfl dX1_isSame_20 ?_
    refine lv_iload_n hx hb dX1_isSame_23 rfl (lv_at hl 1 rfl) ?_
    refine lv_iload hx hb dX1_isSame_24 (lv_at hl 0 rfl) ?_
    refine lv_iadd hx hb dX1_isSame_26 ?_
    refine gx_top (y := nI ((n * wd) + i)) (nI_add (n * wd) i) ?_
    refine gy_ild (i := ((n * wd) + i)) hx hb hK hP 2 rfl (by omega) (by omega) dX1_isSame_27 ?_
    refine lv_aload_n hx hb dX1_isSame_28 rfl (lv_at hl 4 rfl) ?_
    refine lv_iload hx hb dX1_isSame_29 (lv_at hl 0 rfl) ?_
    refine gy_ild (i := i) hx hb hK hP 1 rfl (by omega) (by omega) dX1_isSame_31 ?_
    refine lv_icmp_eq (tgt := 37) hx hb dX1_isSame_32 (by decide) (fun c_2 => ?_) (fun c_2 => ?_)
    · refine lv_iinc (v := nI (i + 1)) (lv' := [(4, .int (nI (i + 1))), (3, .int (nI (n * wd))), (0, .ref h0), (1, .int (nI n)), (2, .ref a)]) hx hb dX1_isSame_37 hl (k := 0) rfl (nI_add i 1) (by decide) rfl (fun ls hl => ?_)
      refine lv_goto (tgt := 10) hx hb dX1_isSame_40 (by decide) ?_
      exact ih10 (i + 1) H locs ls ⟨(by show (i + 1) ≤ wd; omega), (fun j hj => by by_cases e9 : j = i; (subst e9; exact c_2); exact hi10_1 j (by omega)), hP, hD, hS, lv_sub hl [0, 1, 2, 3, 4] rfl⟩ (by show wd - (i + 1) < wd - i; omega)
    · refine lv_iconst (v := 0) hx hb dX1_isSame_35 (by decide) ?_
      exact gx_zret (w' := [(h0, .inr (1, [v0, v1, v2, v3, v4, v5, .int (nI wd), .ref a7, v8, v9])), (a, .inl (cI, 34, .inl f)), (a7, .inl (cI, rl, .inl rf))]) hx hb hr hlk hK hP hD hS (Nat.le_of_ble_eq_true rfl) (Nat.le_of_ble_eq_true rfl) dX1_isSame_36 rfl ⟨0, (by decide), (Or.inr ⟨rfl, fun h => c_2 (h i (by omega))⟩), rfl, rfl⟩
def wsP_x_add : List Cond := .code yX1_add cX1_add 5 (some .boolean) :: (([.fieldLink RX1 47 "LitmusHall$Explorer" "size" "I", .fieldLink RX1 28 "LitmusHall$Explorer" "width" "I", .fieldLink RX1 32 "LitmusHall$Explorer" "rows" "[I", .methodLink RX1 83 arraycopyName, .native arraycopyName, .static arraycopyName, .initialized "java/lang/System", .fieldLink RX1 38 "LitmusHall$Explorer" "came" "[I", .fieldLink RX1 35 "LitmusHall$Explorer" "slots" "[I", .constant RX1 106 (102000), .methodLink RX1 107 Lib.Math.min.name, .static Lib.Math.min.name, .initialized "java/lang/Math", .code Lib.Math.min.name Lib.Math.min.code 2 (some .int), .methodLink RX1 113 yJ7_copyOf_59c91, .static yJ7_copyOf_59c91, .initialized yJ7_copyOf_59c91.cls] ++ wsX10) ++ (wsP_c_copyOf ++ []))
theorem gW_x_add : wsP_x_add.all goodWord = true := by unfold wsP_x_add; exact gw_mk (by decide +kernel) (gw_app gW_c_copyOf rfl)
set_option maxRecDepth 20000 in
theorem gP_x_add__c_copyOf : GoodIn wsP_x_add (va_wsS RX1 113 yJ7_copyOf_59c91 wsP_c_copyOf) := gw_in (pre := [.methodLink RX1 113 yJ7_copyOf_59c91, .static yJ7_copyOf_59c91, .initialized yJ7_copyOf_59c91.cls]) (by decide +kernel) (fun _ h => List.mem_cons_of_mem _ (List.mem_append_right _ (List.mem_append_left _ h))) gW_c_copyOf
abbrev po_x_add (cI cB cZ : ClassId) (h0 : Nat) (a : Nat) (a7 : Nat) (a8 : Nat) (a9 : Nat) (v1 : Value) (v2 : Value) (v3 : Value) (v4 : Value) (v5 : Value) (wd : Nat) (sz : Nat) (rl : Nat) (f : Nat → Int32) (rf : Nat → Int32) (sl : Nat → Int32) (cm : Nat → Int32) (x : Int32) (t : Nat) (y : Int32) : Int32 → va_W → Nat → Nat → Prop := (fun r9 w9 k9 n9 => ∃ z : Int32, ∃ sz9 : Nat, ∃ a79 : Nat, ∃ rl9 : Nat, ∃ rf9 : Nat → Int32, ∃ sl9 : Nat → Int32, ∃ cm9 : Nat → Int32, (rl ≤ rl9) ∧ (gRl rl9) ∧ (gZ z) ∧ (sz ≤ sz9 ∧ sz9 ≤ 3000 ∧ rl9 ≤ 102000) ∧ (sz9 * wd ≤ rl9) ∧ (gSl sl9 sz9) ∧ (gRw rf9 wd sz9) ∧ (gCm cm9 sz9) ∧ ((z = 0 ∧ sz = 3000 ∧ sz9 = sz ∧ rf9 = rf ∧ cm9 = cm ∧ sl9 = sl) ∨ (z = 1 ∧ sz < 3000 ∧ sz9 = sz + 1 ∧ (∀ j, j < sz * wd → rf9 j = rf j) ∧ (∀ j, j < wd → rf9 (sz * wd + j) = f j) ∧ cm9 = upd cm sz x ∧ sl9 = upd sl t ((y &&& (-4096)) ||| nI (sz + 1)))) ∧ k9 = ((rl9 - rl) / 4800) ∧ n9 = (2 * (rl9 - rl)) ∧ r9 = z ∧ w9 = [(h0, .inr (1, [.int (nI sz9), v1, v2, v3, v4, v5, .int (nI wd), .ref a79, .ref a8, .ref a9])), (a, .inl (cI, 34, .inl f)), (a79, .inl (cI, rl9, .inl rf9)), (a8, .inl (cI, 4096, .inl sl9)), (a9, .inl (cI, 3000, .inl cm9))])
set_option maxHeartbeats 4000000 in
set_option maxRecDepth 100000 in
theorem x_add (l : Launch) (D : va_G) (cI cB cZ : ClassId) (h0 : Nat) (a : Nat) (a7 : Nat) (a8 : Nat) (a9 : Nat) (v1 : Value) (v2 : Value) (v3 : Value) (v4 : Value) (v5 : Value) (wd : Nat) (sz : Nat) (rl : Nat) (f : Nat → Int32) (rf : Nat → Int32) (sl : Nat → Int32) (cm : Nat → Int32) (x : Int32) (t : Nat) (y : Int32) (hw16 : 16 ≤ wd) (hw34 : wd ≤ 34) (hrl : gRl rl) (hrm : 1600 ≤ rl ∧ rl ≤ 102000) (hsz : sz ≤ 3000) (hfit : sz * wd ≤ rl) (hsl : gSl sl sz) (hrw : gRw rf wd sz) (hcm : gCm cm sz) (hf : gOkW f) (hx0 : (x = (-1) ∨ ∃ q, q < 8 * (sz + 1) ∧ x = nI q)) (ht : t < 4096) : gMi2 l yX1_add wsP_x_add ({ frames := 2, cells := 21, slots := 200800, locals := 62 }) D cI cB cZ [] [.ref h0, .ref a, .int x, .int (nI t), .int y] [(h0, .inr (1, [.int (nI sz), v1, v2, v3, v4, v5, .int (nI wd), .ref a7, .ref a8, .ref a9])), (a, .inl (cI, 34, .inl f)), (a7, .inl (cI, rl, .inl rf)), (a8, .inl (cI, 4096, .inl sl)), (a9, .inl (cI, 3000, .inl cm))] (po_x_add cI cB cZ h0 a a7 a8 a9 v1 v2 v3 v4 v5 wd sz rl f rf sl cm x t y) := by
  refine gMi2.of (cc := cX1_add) (maxL := 5) (ret := (some .boolean)) (by decide) rfl (Nat.le_of_ble_eq_true rfl) (fun p e s m below meth c A ls hx hb hr hlk hml hts hown hin hA hP hK hD hS hN hl => ?_)
  have hown : s.vm.findClass RX1 = some m.cls := hown
  have hl : lv_has ls 5 [(0, .ref h0), (1, .ref a), (2, .int x), (3, .int (nI t)), (4, .int y)] := hl
  refine W.widen (k := 0) (n := 0) (Nat.le_refl _) (Nat.le_refl _) ?_
  refine lv_aload_n hx hb dX1_add_0 rfl (lv_at hl 0 rfl) ?_
  refine va_get (D := D) (ci := 1) (v := .int (nI sz)) (C := RX1) (T := TX1) (N := 10) hx hb hts (fun _ h => List.mem_cons_of_mem _ (List.mem_append_left _ (List.mem_append_right _ h))) hown hK hP 0 rfl rfl 0 (by decide) (hts (.fieldLink RX1 47 "LitmusHall$Explorer" "size" "I") (by decide +kernel)) (fun _ h9 => h9) rfl dX1_add_1 ?_
  refine lv_sipush (v := 3000) hx hb dX1_add_4 (by decide) ?_
  refine gy_lt (a := sz) (b := 3000) (tgt := 12) hx hb (by omega) (by omega) dX1_add_7 (by decide) (fun c_1 => ?_) (fun c_1 => ?_)
  · have hmw : (sz + 1) * wd = sz * wd + wd := by rw [Nat.add_mul, Nat.one_mul]
    have hmw2 : sz * wd + wd ≤ 3000 * 34 := Nat.le_trans (Nat.le_of_eq hmw.symm) (Nat.mul_le_mul (by omega) (by omega))
    have hru := hrl
    unfold gRl at hru
    refine lv_aload_n hx hb dX1_add_12 rfl (lv_at hl 0 rfl) ?_
    refine va_get (D := D) (ci := 1) (v := .int (nI sz)) (C := RX1) (T := TX1) (N := 10) hx hb hts (fun _ h => List.mem_cons_of_mem _ (List.mem_append_left _ (List.mem_append_right _ h))) hown hK hP 0 rfl rfl 0 (by decide) (hts (.fieldLink RX1 47 "LitmusHall$Explorer" "size" "I") (by decide +kernel)) (fun _ h9 => h9) rfl dX1_add_13 ?_
    refine lv_iconst (v := 1) hx hb dX1_add_16 (by decide) ?_
    refine lv_iadd hx hb dX1_add_17 ?_
    refine gx_top (y := nI (sz + 1)) (nI_add sz 1) ?_
    refine lv_aload_n hx hb dX1_add_18 rfl (lv_at hl 0 rfl) ?_
    refine va_get (D := D) (ci := 1) (v := .int (nI wd)) (C := RX1) (T := TX1) (N := 10) hx hb hts (fun _ h => List.mem_cons_of_mem _ (List.mem_append_left _ (List.mem_append_right _ h))) hown hK hP 0 rfl rfl 6 (by decide) (hts (.fieldLink RX1 28 "LitmusHall$Explorer" "width" "I") (by decide +kernel)) (fun _ h9 => h9) rfl dX1_add_19 ?_
    refine lv_imul hx hb dX1_add_22 ?_
    refine gx_top (y := nI ((sz + 1) * wd)) (pk_mul (sz + 1) wd) ?_
    refine lv_aload_n hx hb dX1_add_23 rfl (lv_at hl 0 rfl) ?_
    refine va_get (D := D) (ci := 1) (v := .ref a7) (C := RX1) (T := TX1) (N := 10) hx hb hts (fun _ h => List.mem_cons_of_mem _ (List.mem_append_left _ (List.mem_append_right _ h))) hown hK hP 0 rfl rfl 7 (by decide) (hts (.fieldLink RX1 32 "LitmusHall$Explorer" "rows" "[I") (by decide +kernel)) (fun _ h9 => h9) rfl dX1_add_24 ?_
    refine va_alen (v := nI rl) hx hb hK hP 2 0 rfl rfl rfl dX1_add_27 ?_
    refine gy_le (a := ((sz + 1) * wd)) (b := rl) (tgt := 54) hx hb (by omega) (by omega) dX1_add_28 (by decide) (fun c_2 => ?_) (fun c_2 => ?_)
    · refine lv_aload_n hx hb dX1_add_54 rfl (lv_at hl 1 rfl) ?_
      refine lv_iconst (v := 0) hx hb dX1_add_55 (by decide) ?_
      refine lv_aload_n hx hb dX1_add_56 rfl (lv_at hl 0 rfl) ?_
      refine va_get (D := D) (ci := 1) (v := .ref a7) (C := RX1) (T := TX1) (N := 10) hx hb hts (fun _ h => List.mem_cons_of_mem _ (List.mem_append_left _ (List.mem_append_right _ h))) hown hK hP 0 rfl rfl 7 (by decide) (hts (.fieldLink RX1 32 "LitmusHall$Explorer" "rows" "[I") (by decide +kernel)) (fun _ h9 => h9) rfl dX1_add_57 ?_
      refine lv_aload_n hx hb dX1_add_60 rfl (lv_at hl 0 rfl) ?_
      refine va_get (D := D) (ci := 1) (v := .int (nI sz)) (C := RX1) (T := TX1) (N := 10) hx hb hts (fun _ h => List.mem_cons_of_mem _ (List.mem_append_left _ (List.mem_append_right _ h))) hown hK hP 0 rfl rfl 0 (by decide) (hts (.fieldLink RX1 47 "LitmusHall$Explorer" "size" "I") (by decide +kernel)) (fun _ h9 => h9) rfl dX1_add_61 ?_
      refine lv_aload_n hx hb dX1_add_64 rfl (lv_at hl 0 rfl) ?_
      refine va_get (D := D) (ci := 1) (v := .int (nI wd)) (C := RX1) (T := TX1) (N := 10) hx hb hts (fun _ h => List.mem_cons_of_mem _ (List.mem_append_left _ (List.mem_append_right _ h))) hown hK hP 0 rfl rfl 6 (by decide) (hts (.fieldLink RX1 28 "LitmusHall$Explorer" "width" "I") (by decide +kernel)) (fun _ h9 => h9) rfl dX1_add_65 ?_
      refine lv_imul hx hb dX1_add_68 ?_
      refine gx_top (y := nI (sz * wd)) (pk_mul sz wd) ?_
      refine lv_aload_n hx hb dX1_add_69 rfl (lv_at hl 0 rfl) ?_
      refine va_get (D := D) (ci := 1) (v := .int (nI wd)) (C := RX1) (T := TX1) (N := 10) hx hb hts (fun _ h => List.mem_cons_of_mem _ (List.mem_append_left _ (List.mem_append_right _ h))) hown hK hP 0 rfl rfl 6 (by decide) (hts (.fieldLink RX1 28 "LitmusHall$Explorer" "width" "I") (by decide +kernel)) (fun _ h9 => h9) rfl dX1_add_70 ?_
      refine gy_copyi (sp := 0) (dp := (sz * wd)) (n := wd) hx hb (hml.trans hl.1.symm) hown (hts (.methodLink RX1 83 arraycopyName) (by decide +kernel)) (hts (.native arraycopyName) (by decide +kernel)) (hts (.static arraycopyName) (by decide +kernel)) (hts (.initialized "java/lang/System") (by decide +kernel)) hK hP hD hS 1 2 rfl rfl (by omega) (by omega) (by omega) (by omega) (by omega) (Nat.le_of_ble_eq_true rfl) (Nat.le_of_ble_eq_true rfl) dX1_add_73 (fun H locs hP hD hS => ?_)
      have hP : va_P D vwCl [(h0, .inr (1, [.int (nI sz), v1, v2, v3, v4, v5, .int (nI wd), .ref a7, .ref a8, .ref a9])), (a, .inl (cI, 34, .inl f)), (a7, .inl (cI, rl, .inl (va_cpy f rf 0 (sz * wd) wd))), (a8, .inl (cI, 4096, .inl sl)), (a9, .inl (cI, 3000, .inl cm))] H := hP
      have hD : va_D A [(h0, .inr (1, [.int (nI sz), v1, v2, v3, v4, v5, .int (nI wd), .ref a7, .ref a8, .ref a9])), (a, .inl (cI, 34, .inl f)), (a7, .inl (cI, rl, .inl (va_cpy f rf 0 (sz * wd) wd))), (a8, .inl (cI, 4096, .inl sl)), (a9, .inl (cI, 3000, .inl cm))] := hD
      refine lv_aload_n hx hb dX1_add_76 rfl (lv_at hl 0 rfl) ?_
      refine va_get (D := D) (ci := 1) (v := .ref a9) (C := RX1) (T := TX1) (N := 10) hx hb hts (fun _ h => List.mem_cons_of_mem _ (List.mem_append_left _ (List.mem_append_right _ h))) hown hK hP 0 rfl rfl 9 (by decide) (hts (.fieldLink RX1 38 "LitmusHall$Explorer" "came" "[I") (by decide +kernel)) (fun _ h9 => h9) rfl dX1_add_77 ?_
      refine lv_aload_n hx hb dX1_add_80 rfl (lv_at hl 0 rfl) ?_
      refine va_get (D := D) (ci := 1) (v := .int (nI sz)) (C := RX1) (T := TX1) (N := 10) hx hb hts (fun _ h => List.mem_cons_of_mem _ (List.mem_append_left _ (List.mem_append_right _ h))) hown hK hP 0 rfl rfl 0 (by decide) (hts (.fieldLink RX1 47 "LitmusHall$Explorer" "size" "I") (by decide +kernel)) (fun _ h9 => h9) rfl dX1_add_81 ?_
      refine lv_iload_n hx hb dX1_add_84 rfl (lv_at hl 2 rfl) ?_
      refine gy_ist (i := sz) hx hb hK hP hD hS 4 rfl (by omega) (by omega) dX1_add_85 (fun H locs hP hD hS => ?_)
      have hP : va_P D vwCl [(h0, .inr (1, [.int (nI sz), v1, v2, v3, v4, v5, .int (nI wd), .ref a7, .ref a8, .ref a9])), (a, .inl (cI, 34, .inl f)), (a7, .inl (cI, rl, .inl (va_cpy f rf 0 (sz * wd) wd))), (a8, .inl (cI, 4096, .inl sl)), (a9, .inl (cI, 3000, .inl (upd cm sz x)))] H := hP
      have hD : va_D A [(h0, .inr (1, [.int (nI sz), v1, v2, v3, v4, v5, .int (nI wd), .ref a7, .ref a8, .ref a9])), (a, .inl (cI, 34, .inl f)), (a7, .inl (cI, rl, .inl (va_cpy f rf 0 (sz * wd) wd))), (a8, .inl (cI, 4096, .inl sl)), (a9, .inl (cI, 3000, .inl (upd cm sz x)))] := hD
      refine lv_aload_n hx hb dX1_add_86 rfl (lv_at hl 0 rfl) ?_
      refine lv_dup hx hb dX1_add_87 rfl ?_
      refine va_get (D := D) (ci := 1) (v := .int (nI sz)) (C := RX1) (T := TX1) (N := 10) hx hb hts (fun _ h => List.mem_cons_of_mem _ (List.mem_append_left _ (List.mem_append_right _ h))) hown hK hP 0 rfl rfl 0 (by decide) (hts (.fieldLink RX1 47 "LitmusHall$Explorer" "size" "I") (by decide +kernel)) (fun _ h9 => h9) rfl dX1_add_88 ?_
      refine lv_iconst (v := 1) hx hb dX1_add_91 (by decide) ?_
      refine lv_iadd hx hb dX1_add_92 ?_
      refine gx_top (y := nI (sz + 1)) (nI_add sz 1) ?_
      refine va_put (D := D) (ci := 1) (v := .int (nI (sz + 1))) (ty := .int) (C := RX1) (T := TX1) (N := 10) hx hb hts (fun _ h => List.mem_cons_of_mem _ (List.mem_append_left _ (List.mem_append_right _ h))) tyX1 tyX1_ok nmX1 hown hK hP hD hS 0 rfl rfl 0 (by decide) (hts (.fieldLink RX1 47 "LitmusHall$Explorer" "size" "I") (by decide +kernel)) (fun _ h9 => h9) rfl (by decide +kernel) rfl rfl (Nat.le_of_ble_eq_true rfl) dX1_add_93 (fun H locs hP hD hS => ?_)
      have hP : va_P D vwCl [(h0, .inr (1, [.int (nI (sz + 1)), v1, v2, v3, v4, v5, .int (nI wd), .ref a7, .ref a8, .ref a9])), (a, .inl (cI, 34, .inl f)), (a7, .inl (cI, rl, .inl (va_cpy f rf 0 (sz * wd) wd))), (a8, .inl (cI, 4096, .inl sl)), (a9, .inl (cI, 3000, .inl (upd cm sz x)))] H := hP
      have hD : va_D A [(h0, .inr (1, [.int (nI (sz + 1)), v1, v2, v3, v4, v5, .int (nI wd), .ref a7, .ref a8, .ref a9])), (a, .inl (cI, 34, .inl f)), (a7, .inl (cI, rl, .inl (va_cpy f rf 0 (sz * wd) wd))), (a8, .inl (cI, 4096, .inl sl)), (a9, .inl (cI, 3000, .inl (upd cm sz x)))] := hD
      refine lv_aload_n hx hb dX1_add_96 rfl (lv_at hl 0 rfl) ?_
      refine va_get (D := D) (ci := 1) (v := .ref a8) (C := RX1) (T := TX1) (N := 10) hx hb hts (fun _ h => List.mem_cons_of_mem _ (List.mem_append_left _ (List.mem_append_right _ h))) hown hK hP 0 rfl rfl 8 (by decide) (hts (.fieldLink RX1 35 "LitmusHall$Explorer" "slots" "[I") (by decide +kernel)) (fun _ h9 => h9) rfl dX1_add_97 ?_
      refine lv_iload_n hx hb dX1_add_100 rfl (lv_at hl 3 rfl) ?_
      refine lv_iload hx hb dX1_add_101 (lv_at hl 4 rfl) ?_
      refine lv_sipush (v := (-4096)) hx hb dX1_add_103 (by decide) ?_
      refine lv_iand hx hb dX1_add_106 ?_
      refine lv_aload_n hx hb dX1_add_107 rfl (lv_at hl 0 rfl) ?_
      refine va_get (D := D) (ci := 1) (v := .int (nI (sz + 1))) (C := RX1) (T := TX1) (N := 10) hx hb hts (fun _ h => List.mem_cons_of_mem _ (List.mem_append_left _ (List.mem_append_right _ h))) hown hK hP 0 rfl rfl 0 (by decide) (hts (.fieldLink RX1 47 "LitmusHall$Explorer" "size" "I") (by decide +kernel)) (fun _ h9 => h9) rfl dX1_add_108 ?_
      refine lv_ior hx hb dX1_add_111 ?_
      refine gy_ist (i := t) hx hb hK hP hD hS 3 rfl (by omega) (by omega) dX1_add_112 (fun H locs hP hD hS => ?_)
      have hP : va_P D vwCl [(h0, .inr (1, [.int (nI (sz + 1)), v1, v2, v3, v4, v5, .int (nI wd), .ref a7, .ref a8, .ref a9])), (a, .inl (cI, 34, .inl f)), (a7, .inl (cI, rl, .inl (va_cpy f rf 0 (sz * wd) wd))), (a8, .inl (cI, 4096, .inl (upd sl t ((y &&& (-4096)) ||| (nI (sz + 1)))))), (a9, .inl (cI, 3000, .inl (upd cm sz x)))] H := hP
      have hD : va_D A [(h0, .inr (1, [.int (nI (sz + 1)), v1, v2, v3, v4, v5, .int (nI wd), .ref a7, .ref a8, .ref a9])), (a, .inl (cI, 34, .inl f)), (a7, .inl (cI, rl, .inl (va_cpy f rf 0 (sz * wd) wd))), (a8, .inl (cI, 4096, .inl (upd sl t ((y &&& (-4096)) ||| (nI (sz + 1)))))), (a9, .inl (cI, 3000, .inl (upd cm sz x)))] := hD
      refine lv_iconst (v := 1) hx hb dX1_add_113 (by decide) ?_
      exact gw_zret (post := po_x_add cI cB cZ h0 a a7 a8 a9 v1 v2 v3 v4 v5 wd sz rl f rf sl cm x t y) (w' := [(h0, .inr (1, [.int (nI (sz + 1)), v1, v2, v3, v4, v5, .int (nI wd), .ref a7, .ref a8, .ref a9])), (a, .inl (cI, 34, .inl f)), (a7, .inl (cI, rl, .inl (va_cpy f rf 0 (sz * wd) wd))), (a8, .inl (cI, 4096, .inl (upd sl t ((y &&& (-4096)) ||| (nI (sz + 1)))))), (a9, .inl (cI, 3000, .inl (upd cm sz x)))]) (k := (rl - rl) / 4800) (n := 2 * (rl - rl)) hx hb hr hlk hK hP hD hS (by show 0 ≤ 21; exact Nat.le_of_ble_eq_true rfl) (by show 0 ≤ 200800; exact Nat.le_of_ble_eq_true rfl) (by show 0 ≤ (rl - rl) / 4800; exact Nat.zero_le _) (by show 0 ≤ 2 * (rl - rl); exact Nat.zero_le _) dX1_add_114 rfl ⟨1, (sz + 1), a7, rl, (va_cpy f rf 0 (sz * wd) wd), (upd sl t ((y &&& (-4096)) ||| (nI (sz + 1)))), (upd cm sz x), (by omega), (by unfold gRl; omega), (Or.inr rfl), (by omega), (by omega), (gSl_add hsl (by omega)), (gRw_add hrw hw16 (fun j h => by first | (rw [pk_cpy_out (by omega)]; done) | (rw [pk_cpy_out (by omega)]; exact c_2 j (by omega))) (fun j h => by rw [pk_cpy_in (by omega) (by omega)]; congr 1; omega) hf), (gCm_add hcm hx0), (Or.inr ⟨rfl, by omega, rfl, (fun j h => by first | (rw [pk_cpy_out (by omega)]; done) | (rw [pk_cpy_out (by omega)]; exact c_2 j (by omega))), (fun j h => by rw [pk_cpy_in (by omega) (by omega)]; congr 1; omega), rfl, rfl⟩), rfl, rfl, rfl, rfl⟩
    · refine lv_aload_n hx hb dX1_add_31 rfl (lv_at hl 0 rfl) ?_
      refine lv_aload_n hx hb dX1_add_32 rfl (lv_at hl 0 rfl) ?_
      refine va_get (D := D) (ci := 1) (v := .ref a7) (C := RX1) (T := TX1) (N := 10) hx hb hts (fun _ h => List.mem_cons_of_mem _ (List.mem_append_left _ (List.mem_append_right _ h))) hown hK hP 0 rfl rfl 7 (by decide) (hts (.fieldLink RX1 32 "LitmusHall$Explorer" "rows" "[I") (by decide +kernel)) (fun _ h9 => h9) rfl dX1_add_33 ?_
      refine lv_aload_n hx hb dX1_add_36 rfl (lv_at hl 0 rfl) ?_
      refine va_get (D := D) (ci := 1) (v := .ref a7) (C := RX1) (T := TX1) (N := 10) hx hb hts (fun _ h => List.mem_cons_of_mem _ (List.mem_append_left _ (List.mem_append_right _ h))) hown hK hP 0 rfl rfl 7 (by decide) (hts (.fieldLink RX1 32 "LitmusHall$Explorer" "rows" "[I") (by decide +kernel)) (fun _ h9 => h9) rfl dX1_add_37 ?_
      refine va_alen (v := nI rl) hx hb hK hP 2 0 rfl rfl rfl dX1_add_40 ?_
      refine lv_iconst (v := 4) hx hb dX1_add_41 (by decide) ?_
      refine lv_imul hx hb dX1_add_42 ?_
      refine gx_top (y := nI (rl * 4)) (pk_mul rl 4) ?_
      refine lv_ldc hx hb hown (hts (.constant RX1 106 (102000)) (by decide +kernel)) dX1_add_43 ?_
      refine va_mmin hx hb (hml.trans hl.1.symm) hown (hts (.methodLink RX1 107 Lib.Math.min.name) (by decide +kernel)) (hts (.static Lib.Math.min.name) (by decide +kernel)) (hts (.initialized "java/lang/Math") (by decide +kernel)) (hts (.code Lib.Math.min.name Lib.Math.min.code 2 (some .int)) (by decide +kernel)) (Nat.le_of_ble_eq_true rfl) (Nat.le_of_ble_eq_true rfl) (by show 0 ≤ 21; exact Nat.le_of_ble_eq_true rfl) (by show 0 ≤ 200800; exact Nat.le_of_ble_eq_true rfl) dX1_add_45 ?_
      refine gx_top (y := nI (min (rl * 4) 102000)) (gy_min (a := rl * 4) (b := 102000) (by omega) (by omega)) ?_
      obtain ⟨m_3, hm_3⟩ : ∃ z9, z9 = min (rl * 4) 102000 := ⟨_, rfl⟩
      rw [← hm_3]
      refine gw_gor (post := po_c_copyOf cI cB cZ a7 rl rf m_3) (wc := [(a7, .inl (cI, rl, .inl rf))]) (wr := [(h0, .inr (1, [.int (nI sz), v1, v2, v3, v4, v5, .int (nI wd), .ref a7, .ref a8, .ref a9])), (a, .inl (cI, 34, .inl f)), (a8, .inl (cI, 4096, .inl sl)), (a9, .inl (cI, 3000, .inl cm))]) (va_runS (As := [.ref a7, .int (nI m_3)]) (rest := [.ref h0]) ⟨hx, hb, hml, hown, hts⟩ (c_copyOf l D cI cB cZ a7 rl rf m_3 (by omega) (by omega) _ _) (va_cwS 2 hts gP_x_add__c_copyOf rfl rfl rfl (by decide +kernel) ⟨Nat.le_of_ble_eq_true rfl, Nat.le_of_ble_eq_true rfl⟩) (gw_preS hK gN.nil hP hD [2] rfl rfl) rfl rfl hl.1 rfl (lv_room (Nat.le_of_ble_eq_true rfl)) dX1_add_48 ⟨(by show (0) + 1 ≤ 21; exact Nat.le_of_ble_eq_true rfl), (by show (0) + 102000 ≤ 200800; exact Nat.le_of_ble_eq_true rfl)⟩) hP hD hS hA [2] [0, 1, 3, 4] rfl rfl rfl (by decide) (fun r1 w1 k1 n1 H locs hp hP hD hS => ?_)
      obtain ⟨e_4, e_5, hq_6, hk1, hn1, h9, rfl⟩ := hp
      have hk1 := hk1.symm; subst hk1; have hn1 := hn1.symm; subst hn1
      have h9 := h9.symm
      subst h9
      have hq_6 : ∀ j, j < rl → e_5 j = rf j := hq_6
      refine W.widen (k := 0 + (1)) (n := 0 + (m_3)) (Nat.le_refl _) (Nat.le_refl _) ?_
      refine va_put (D := D) (ci := 1) (v := .ref e_4) (ty := (.array .int)) (C := RX1) (T := TX1) (N := 10) hx hb hts (fun _ h => List.mem_cons_of_mem _ (List.mem_append_left _ (List.mem_append_right _ h))) tyX1 tyX1_ok nmX1 hown hK hP hD hS 0 rfl rfl 7 (by decide) (hts (.fieldLink RX1 32 "LitmusHall$Explorer" "rows" "[I") (by decide +kernel)) (fun _ h9 => h9) rfl (by decide +kernel) rfl rfl (Nat.le_of_ble_eq_true rfl) dX1_add_51 (fun H locs hP hD hS => ?_)
      have hP : va_P D vwCl [(h0, .inr (1, [.int (nI sz), v1, v2, v3, v4, v5, .int (nI wd), .ref e_4, .ref a8, .ref a9])), (a, .inl (cI, 34, .inl f)), (a8, .inl (cI, 4096, .inl sl)), (a9, .inl (cI, 3000, .inl cm)), (a7, .inl (cI, rl, .inl rf)), (e_4, .inl (cI, m_3, .inl e_5))] H := hP
      have hD : va_D A [(h0, .inr (1, [.int (nI sz), v1, v2, v3, v4, v5, .int (nI wd), .ref e_4, .ref a8, .ref a9])), (a, .inl (cI, 34, .inl f)), (a8, .inl (cI, 4096, .inl sl)), (a9, .inl (cI, 3000, .inl cm)), (a7, .inl (cI, rl, .inl rf)), (e_4, .inl (cI, m_3, .inl e_5))] := hD
      refine lv_aload_n hx hb dX1_add_54 rfl (lv_at hl 1 rfl) ?_
      refine lv_iconst (v := 0) hx hb dX1_add_55 (by decide) ?_
      refine lv_aload_n hx hb dX1_add_56 rfl (lv_at hl 0 rfl) ?_
      refine va_get (D := D) (ci := 1) (v := .ref e_4) (C := RX1) (T := TX1) (N := 10) hx hb hts (fun _ h => List.mem_cons_of_mem _ (List.mem_append_left _ (List.mem_append_right _ h))) hown hK hP 0 rfl rfl 7 (by decide) (hts (.fieldLink RX1 32 "LitmusHall$Explorer" "rows" "[I") (by decide +kernel)) (fun _ h9 => h9) rfl dX1_add_57 ?_
      refine lv_aload_n hx hb dX1_add_60 rfl (lv_at hl 0 rfl) ?_
      refine va_get (D := D) (ci := 1) (v := .int (nI sz)) (C := RX1) (T := TX1) (N := 10) hx hb hts (fun _ h => List.mem_cons_of_mem _ (List.mem_append_left _ (List.mem_append_right _ h))) hown hK hP 0 rfl rfl 0 (by decide) (hts (.fieldLink RX1 47 "LitmusHall$Explorer" "size" "I") (by decide +kernel)) (fun _ h9 => h9) rfl dX1_add_61 ?_
      refine lv_aload_n hx hb dX1_add_64 rfl (lv_at hl 0 rfl) ?_
      refine va_get (D := D) (ci := 1) (v := .int (nI wd)) (C := RX1) (T := TX1) (N := 10) hx hb hts (fun _ h => List.mem_cons_of_mem _ (List.mem_append_left _ (List.mem_append_right _ h))) hown hK hP 0 rfl rfl 6 (by decide) (hts (.fieldLink RX1 28 "LitmusHall$Explorer" "width" "I") (by decide +kernel)) (fun _ h9 => h9) rfl dX1_add_65 ?_
      refine lv_imul hx hb dX1_add_68 ?_
      refine gx_top (y := nI (sz * wd)) (pk_mul sz wd) ?_
      refine lv_aload_n hx hb dX1_add_69 rfl (lv_at hl 0 rfl) ?_
      refine va_get (D := D) (ci := 1) (v := .int (nI wd)) (C := RX1) (T := TX1) (N := 10) hx hb hts (fun _ h => List.mem_cons_of_mem _ (List.mem_append_left _ (List.mem_append_right _ h))) hown hK hP 0 rfl rfl 6 (by decide) (hts (.fieldLink RX1 28 "LitmusHall$Explorer" "width" "I") (by decide +kernel)) (fun _ h9 => h9) rfl dX1_add_70 ?_
      refine gy_copyi (sp := 0) (dp := (sz * wd)) (n := wd) hx hb (hml.trans hl.1.symm) hown (hts (.methodLink RX1 83 arraycopyName) (by decide +kernel)) (hts (.native arraycopyName) (by decide +kernel)) (hts (.static arraycopyName) (by decide +kernel)) (hts (.initialized "java/lang/System") (by decide +kernel)) hK hP hD hS 1 5 rfl rfl (by omega) (by omega) (by omega) (by omega) (by omega) (Nat.le_of_ble_eq_true rfl) (Nat.le_of_ble_eq_true rfl) dX1_add_73 (fun H locs hP hD hS => ?_)
      have hP : va_P D vwCl [(h0, .inr (1, [.int (nI sz), v1, v2, v3, v4, v5, .int (nI wd), .ref e_4, .ref a8, .ref a9])), (a, .inl (cI, 34, .inl f)), (a8, .inl (cI, 4096, .inl sl)), (a9, .inl (cI, 3000, .inl cm)), (a7, .inl (cI, rl, .inl rf)), (e_4, .inl (cI, m_3, .inl (va_cpy f e_5 0 (sz * wd) wd)))] H := hP
      have hD : va_D A [(h0, .inr (1, [.int (nI sz), v1, v2, v3, v4, v5, .int (nI wd), .ref e_4, .ref a8, .ref a9])), (a, .inl (cI, 34, .inl f)), (a8, .inl (cI, 4096, .inl sl)), (a9, .inl (cI, 3000, .inl cm)), (a7, .inl (cI, rl, .inl rf)), (e_4, .inl (cI, m_3, .inl (va_cpy f e_5 0 (sz * wd) wd)))] := hD
      refine lv_aload_n hx hb dX1_add_76 rfl (lv_at hl 0 rfl) ?_
      refine va_get (D := D) (ci := 1) (v := .ref a9) (C := RX1) (T := TX1) (N := 10) hx hb hts (fun _ h => List.mem_cons_of_mem _ (List.mem_append_left _ (List.mem_append_right _ h))) hown hK hP 0 rfl rfl 9 (by decide) (hts (.fieldLink RX1 38 "LitmusHall$Explorer" "came" "[I") (by decide +kernel)) (fun _ h9 => h9) rfl dX1_add_77 ?_
      refine lv_aload_n hx hb dX1_add_80 rfl (lv_at hl 0 rfl) ?_
      refine va_get (D := D) (ci := 1) (v := .int (nI sz)) (C := RX1) (T := TX1) (N := 10) hx hb hts (fun _ h => List.mem_cons_of_mem _ (List.mem_append_left _ (List.mem_append_right _ h))) hown hK hP 0 rfl rfl 0 (by decide) (hts (.fieldLink RX1 47 "LitmusHall$Explorer" "size" "I") (by decide +kernel)) (fun _ h9 => h9) rfl dX1_add_81 ?_
      refine lv_iload_n hx hb dX1_add_84 rfl (lv_at hl 2 rfl) ?_
      refine gy_ist (i := sz) hx hb hK hP hD hS 3 rfl (by omega) (by omega) dX1_add_85 (fun H locs hP hD hS => ?_)
      have hP : va_P D vwCl [(h0, .inr (1, [.int (nI sz), v1, v2, v3, v4, v5, .int (nI wd), .ref e_4, .ref a8, .ref a9])), (a, .inl (cI, 34, .inl f)), (a8, .inl (cI, 4096, .inl sl)), (a9, .inl (cI, 3000, .inl (upd cm sz x))), (a7, .inl (cI, rl, .inl rf)), (e_4, .inl (cI, m_3, .inl (va_cpy f e_5 0 (sz * wd) wd)))] H := hP
      have hD : va_D A [(h0, .inr (1, [.int (nI sz), v1, v2, v3, v4, v5, .int (nI wd), .ref e_4, .ref a8, .ref a9])), (a, .inl (cI, 34, .inl f)), (a8, .inl (cI, 4096, .inl sl)), (a9, .inl (cI, 3000, .inl (upd cm sz x))), (a7, .inl (cI, rl, .inl rf)), (e_4, .inl (cI, m_3, .inl (va_cpy f e_5 0 (sz * wd) wd)))] := hD
      refine lv_aload_n hx hb dX1_add_86 rfl (lv_at hl 0 rfl) ?_
      refine lv_dup hx hb dX1_add_87 rfl ?_
      refine va_get (D := D) (ci := 1) (v := .int (nI sz)) (C := RX1) (T := TX1) (N := 10) hx hb hts (fun _ h => List.mem_cons_of_mem _ (List.mem_append_left _ (List.mem_append_right _ h))) hown hK hP 0 rfl rfl 0 (by decide) (hts (.fieldLink RX1 47 "LitmusHall$Explorer" "size" "I") (by decide +kernel)) (fun _ h9 => h9) rfl dX1_add_88 ?_
      refine lv_iconst (v := 1) hx hb dX1_add_91 (by decide) ?_
      refine lv_iadd hx hb dX1_add_92 ?_
      refine gx_top (y := nI (sz + 1)) (nI_add sz 1) ?_
      refine va_put (D := D) (ci := 1) (v := .int (nI (sz + 1))) (ty := .int) (C := RX1) (T := TX1) (N := 10) hx hb hts (fun _ h => List.mem_cons_of_mem _ (List.mem_append_left _ (List.mem_append_right _ h))) tyX1 tyX1_ok nmX1 hown hK hP hD hS 0 rfl rfl 0 (by decide) (hts (.fieldLink RX1 47 "LitmusHall$Explorer" "size" "I") (by decide +kernel)) (fun _ h9 => h9) rfl (by decide +kernel) rfl rfl (Nat.le_of_ble_eq_true rfl) dX1_add_93 (fun H locs hP hD hS => ?_)
      have hP : va_P D vwCl [(h0, .inr (1, [.int (nI (sz + 1)), v1, v2, v3, v4, v5, .int (nI wd), .ref e_4, .ref a8, .ref a9])), (a, .inl (cI, 34, .inl f)), (a8, .inl (cI, 4096, .inl sl)), (a9, .inl (cI, 3000, .inl (upd cm sz x))), (a7, .inl (cI, rl, .inl rf)), (e_4, .inl (cI, m_3, .inl (va_cpy f e_5 0 (sz * wd) wd)))] H := hP
      have hD : va_D A [(h0, .inr (1, [.int (nI (sz + 1)), v1, v2, v3, v4, v5, .int (nI wd), .ref e_4, .ref a8, .ref a9])), (a, .inl (cI, 34, .inl f)), (a8, .inl (cI, 4096, .inl sl)), (a9, .inl (cI, 3000, .inl (upd cm sz x))), (a7, .inl (cI, rl, .inl rf)), (e_4, .inl (cI, m_3, .inl (va_cpy f e_5 0 (sz * wd) wd)))] := hD
      refine lv_aload_n hx hb dX1_add_96 rfl (lv_at hl 0 rfl) ?_
      refine va_get (D := D) (ci := 1) (v := .ref a8) (C := RX1) (T := TX1) (N := 10) hx hb hts (fun _ h => List.mem_cons_of_mem _ (List.mem_append_left _ (List.mem_append_right _ h))) hown hK hP 0 rfl rfl 8 (by decide) (hts (.fieldLink RX1 35 "LitmusHall$Explorer" "slots" "[I") (by decide +kernel)) (fun _ h9 => h9) rfl dX1_add_97 ?_
      refine lv_iload_n hx hb dX1_add_100 rfl (lv_at hl 3 rfl) ?_
      refine lv_iload hx hb dX1_add_101 (lv_at hl 4 rfl) ?_
      refine lv_sipush (v := (-4096)) hx hb dX1_add_103 (by decide) ?_
      refine lv_iand hx hb dX1_add_106 ?_
      refine lv_aload_n hx hb dX1_add_107 rfl (lv_at hl 0 rfl) ?_
      refine va_get (D := D) (ci := 1) (v := .int (nI (sz + 1))) (C := RX1) (T := TX1) (N := 10) hx hb hts (fun _ h => List.mem_cons_of_mem _ (List.mem_append_left _ (List.mem_append_right _ h))) hown hK hP 0 rfl rfl 0 (by decide) (hts (.fieldLink RX1 47 "LitmusHall$Explorer" "size" "I") (by decide +kernel)) (fun _ h9 => h9) rfl dX1_add_108 ?_
      refine lv_ior hx hb dX1_add_111 ?_
      refine gy_ist (i := t) hx hb hK hP hD hS 2 rfl (by omega) (by omega) dX1_add_112 (fun H locs hP hD hS => ?_)
      have hP : va_P D vwCl [(h0, .inr (1, [.int (nI (sz + 1)), v1, v2, v3, v4, v5, .int (nI wd), .ref e_4, .ref a8, .ref a9])), (a, .inl (cI, 34, .inl f)), (a8, .inl (cI, 4096, .inl (upd sl t ((y &&& (-4096)) ||| (nI (sz + 1)))))), (a9, .inl (cI, 3000, .inl (upd cm sz x))), (a7, .inl (cI, rl, .inl rf)), (e_4, .inl (cI, m_3, .inl (va_cpy f e_5 0 (sz * wd) wd)))] H := hP
      have hD : va_D A [(h0, .inr (1, [.int (nI (sz + 1)), v1, v2, v3, v4, v5, .int (nI wd), .ref e_4, .ref a8, .ref a9])), (a, .inl (cI, 34, .inl f)), (a8, .inl (cI, 4096, .inl (upd sl t ((y &&& (-4096)) ||| (nI (sz + 1)))))), (a9, .inl (cI, 3000, .inl (upd cm sz x))), (a7, .inl (cI, rl, .inl rf)), (e_4, .inl (cI, m_3, .inl (va_cpy f e_5 0 (sz * wd) wd)))] := hD
      refine lv_iconst (v := 1) hx hb dX1_add_113 (by decide) ?_
      have hP := hP.sub (ws' := [(h0, .inr (1, [.int (nI (sz + 1)), v1, v2, v3, v4, v5, .int (nI wd), .ref e_4, .ref a8, .ref a9])), (a, .inl (cI, 34, .inl f)), (e_4, .inl (cI, m_3, .inl (va_cpy f e_5 0 (sz * wd) wd))), (a8, .inl (cI, 4096, .inl (upd sl t ((y &&& (-4096)) ||| (nI (sz + 1)))))), (a9, .inl (cI, 3000, .inl (upd cm sz x)))]) [0, 1, 5, 2, 3] rfl
      have hD := hD.sub (ws' := [(h0, .inr (1, [.int (nI (sz + 1)), v1, v2, v3, v4, v5, .int (nI wd), .ref e_4, .ref a8, .ref a9])), (a, .inl (cI, 34, .inl f)), (e_4, .inl (cI, m_3, .inl (va_cpy f e_5 0 (sz * wd) wd))), (a8, .inl (cI, 4096, .inl (upd sl t ((y &&& (-4096)) ||| (nI (sz + 1)))))), (a9, .inl (cI, 3000, .inl (upd cm sz x)))]) [0, 1, 5, 2, 3] (by decide) rfl
      exact gw_zret (post := po_x_add cI cB cZ h0 a a7 a8 a9 v1 v2 v3 v4 v5 wd sz rl f rf sl cm x t y) (w' := [(h0, .inr (1, [.int (nI (sz + 1)), v1, v2, v3, v4, v5, .int (nI wd), .ref e_4, .ref a8, .ref a9])), (a, .inl (cI, 34, .inl f)), (e_4, .inl (cI, m_3, .inl (va_cpy f e_5 0 (sz * wd) wd))), (a8, .inl (cI, 4096, .inl (upd sl t ((y &&& (-4096)) ||| (nI (sz + 1)))))), (a9, .inl (cI, 3000, .inl (upd cm sz x)))]) (k := (m_3 - rl) / 4800) (n := 2 * (m_3 - rl)) hx hb hr hlk hK hP hD hS (by show 0 + (1) ≤ 21; exact Nat.le_of_ble_eq_true rfl) (by show 0 + (m_3) ≤ 200800; omega) (by show 0 + (1) ≤ (m_3 - rl) / 4800; omega) (by show 0 + (m_3) ≤ 2 * (m_3 - rl); omega) dX1_add_114 rfl ⟨1, (sz + 1), e_4, m_3, (va_cpy f e_5 0 (sz * wd) wd), (upd sl t ((y &&& (-4096)) ||| (nI (sz + 1)))), (upd cm sz x), (by omega), (by unfold gRl; omega), (Or.inr rfl), (by omega), (by omega), (gSl_add hsl (by omega)), (gRw_add hrw hw16 (fun j h => by first | (rw [pk_cpy_out (by omega)]; done) | (rw [pk_cpy_out (by omega)]; exact hq_6 j (by omega))) (fun j h => by rw [pk_cpy_in (by omega) (by omega)]; congr 1; omega) hf), (gCm_add hcm hx0), (Or.inr ⟨rfl, by omega, rfl, (fun j h => by first | (rw [pk_cpy_out (by omega)]; done) | (rw [pk_cpy_out (by omega)]; exact hq_6 j (by omega))), (fun j h => by rw [pk_cpy_in (by omega) (by omega)]; congr 1; omega), rfl, rfl⟩), rfl, rfl, rfl, rfl⟩
  · refine lv_iconst (v := 0) hx hb dX1_add_10 (by decide) ?_
    exact gw_zret (post := po_x_add cI cB cZ h0 a a7 a8 a9 v1 v2 v3 v4 v5 wd sz rl f rf sl cm x t y) (w' := [(h0, .inr (1, [.int (nI sz), v1, v2, v3, v4, v5, .int (nI wd), .ref a7, .ref a8, .ref a9])), (a, .inl (cI, 34, .inl f)), (a7, .inl (cI, rl, .inl rf)), (a8, .inl (cI, 4096, .inl sl)), (a9, .inl (cI, 3000, .inl cm))]) (k := (rl - rl) / 4800) (n := 2 * (rl - rl)) hx hb hr hlk hK hP hD hS (by show 0 ≤ 21; exact Nat.le_of_ble_eq_true rfl) (by show 0 ≤ 200800; exact Nat.le_of_ble_eq_true rfl) (by show 0 ≤ (rl - rl) / 4800; exact Nat.zero_le _) (by show 0 ≤ 2 * (rl - rl); exact Nat.zero_le _) dX1_add_11 rfl ⟨0, sz, a7, rl, rf, sl, cm, (by omega), hrl, (Or.inl rfl), (by omega), (by omega), hsl, hrw, hcm, (Or.inl ⟨rfl, by omega, rfl, rfl, rfl, rfl⟩), rfl, rfl, rfl, rfl⟩
def wsP_x_keep : List Cond := .code yX1_keep cX1_keep 7 (some .boolean) :: (([.methodLink RX1 93 yX1_hashOf, .instanceMethod yX1_hashOf, .selects RX1 yX1_hashOf yX1_hashOf, .initialized RX1, .fieldLink RX1 35 "LitmusHall$Explorer" "slots" "[I", .methodLink RX1 101 yX1_isSame, .instanceMethod yX1_isSame, .selects RX1 yX1_isSame yX1_isSame, .methodLink RX1 97 yX1_add, .instanceMethod yX1_add, .selects RX1 yX1_add yX1_add] ++ wsX10) ++ (wsP_x_hashOf ++ (wsP_x_xSame ++ (wsP_x_add ++ []))))
theorem gW_x_keep : wsP_x_keep.all goodWord = true := by unfold wsP_x_keep; exact gw_mk (by decide +kernel) (gw_app gW_x_hashOf (gw_app gW_x_xSame (gw_app gW_x_add rfl)))
set_option maxRecDepth 20000 in
theorem gP_x_keep__x_hashOf : GoodIn wsP_x_keep (wsV RX1 93 RX1 yX1_hashOf wsP_x_hashOf) := gw_in (pre := [.methodLink RX1 93 yX1_hashOf, .instanceMethod yX1_hashOf, .selects RX1 yX1_hashOf yX1_hashOf, .initialized RX1]) (by decide +kernel) (fun _ h => List.mem_cons_of_mem _ (List.mem_append_right _ (List.mem_append_left _ h))) gW_x_hashOf
set_option maxRecDepth 20000 in
theorem gP_x_keep__x_xSame : GoodIn wsP_x_keep (wsV RX1 101 RX1 yX1_isSame wsP_x_xSame) := gw_in (pre := [.methodLink RX1 101 yX1_isSame, .instanceMethod yX1_isSame, .selects RX1 yX1_isSame yX1_isSame, .initialized RX1]) (by decide +kernel) (fun _ h => List.mem_cons_of_mem _ (List.mem_append_right _ (List.mem_append_right _ (List.mem_append_left _ h)))) gW_x_xSame
set_option maxRecDepth 20000 in
theorem gP_x_keep__x_add : GoodIn wsP_x_keep (wsV RX1 97 RX1 yX1_add wsP_x_add) := gw_in (pre := [.methodLink RX1 97 yX1_add, .instanceMethod yX1_add, .selects RX1 yX1_add yX1_add, .initialized RX1]) (by decide +kernel) (fun _ h => List.mem_cons_of_mem _ (List.mem_append_right _ (List.mem_append_right _ (List.mem_append_right _ (List.mem_append_left _ h))))) gW_x_add
abbrev po_x_keep (cI cB cZ : ClassId) (h0 : Nat) (a : Nat) (a7 : Nat) (a8 : Nat) (a9 : Nat) (v1 : Value) (v2 : Value) (v3 : Value) (v4 : Value) (v5 : Value) (wd : Nat) (sz : Nat) (rl : Nat) (f : Nat → Int32) (rf : Nat → Int32) (sl : Nat → Int32) (cm : Nat → Int32) (x : Int32) : Int32 → va_W → Nat → Nat → Prop := (fun r9 w9 k9 n9 => ∃ z : Int32, ∃ sz9 : Nat, ∃ a79 : Nat, ∃ rl9 : Nat, ∃ rf9 : Nat → Int32, ∃ sl9 : Nat → Int32, ∃ cm9 : Nat → Int32, (rl ≤ rl9) ∧ (gRl rl9) ∧ (gZ z) ∧ (sz ≤ sz9 ∧ sz9 ≤ 3000 ∧ rl9 ≤ 102000) ∧ (sz9 * wd ≤ rl9) ∧ (gSl sl9 sz9) ∧ (gRw rf9 wd sz9) ∧ (gCm cm9 sz9) ∧ (gKq z sz sz9 wd rf rf9 cm cm9 sl sl9 f x) ∧ k9 = ((rl9 - rl) / 4800) ∧ n9 = (2 * (rl9 - rl)) ∧ r9 = z ∧ w9 = [(h0, .inr (1, [.int (nI sz9), v1, v2, v3, v4, v5, .int (nI wd), .ref a79, .ref a8, .ref a9])), (a, .inl (cI, 34, .inl f)), (a79, .inl (cI, rl9, .inl rf9)), (a8, .inl (cI, 4096, .inl sl9)), (a9, .inl (cI, 3000, .inl cm9))])
set_option maxHeartbeats 4000000 in
set_option maxRecDepth 100000 in
theorem x_keep (l : Launch) (D : va_G) (cI cB cZ : ClassId) (h0 : Nat) (a : Nat) (a7 : Nat) (a8 : Nat) (a9 : Nat) (v1 : Value) (v2 : Value) (v3 : Value) (v4 : Value) (v5 : Value) (wd : Nat) (sz : Nat) (rl : Nat) (f : Nat → Int32) (rf : Nat → Int32) (sl : Nat → Int32) (cm : Nat → Int32) (x : Int32) (hw16 : 16 ≤ wd) (hw34 : wd ≤ 34) (hrl : gRl rl) (hrm : 1600 ≤ rl ∧ rl ≤ 102000) (hsz : sz ≤ 3000) (hfit : sz * wd ≤ rl) (hsl : gSl sl sz) (hrw : gRw rf wd sz) (hcm : gCm cm sz) (hf : gOkW f) (hx0 : (x = (-1) ∨ ∃ q, q < 8 * (sz + 1) ∧ x = nI q)) (hHt : gHt sl rf wd sz) : gMi2 l yX1_keep wsP_x_keep ({ frames := 3, cells := 21, slots := 200800, locals := 86 }) D cI cB cZ [] [.ref h0, .ref a, .int x] [(h0, .inr (1, [.int (nI sz), v1, v2, v3, v4, v5, .int (nI wd), .ref a7, .ref a8, .ref a9])), (a, .inl (cI, 34, .inl f)), (a7, .inl (cI, rl, .inl rf)), (a8, .inl (cI, 4096, .inl sl)), (a9, .inl (cI, 3000, .inl cm))] (po_x_keep cI cB cZ h0 a a7 a8 a9 v1 v2 v3 v4 v5 wd sz rl f rf sl cm x) := by
  refine gMi2.of (cc := cX1_keep) (maxL := 7) (ret := (some .boolean)) (by decide) rfl (Nat.le_of_ble_eq_true rfl) (fun p e s m below meth c A ls hx hb hr hlk hml hts hown hin hA hP hK hD hS hN hl => ?_)
  have hown : s.vm.findClass RX1 = some m.cls := hown
  have hl : lv_has ls 7 [(0, .ref h0), (1, .ref a), (2, .int x)] := hl
  refine W.widen (k := 0) (n := 0) (Nat.le_refl _) (Nat.le_refl _) ?_
  refine lv_aload_n hx hb dX1_keep_0 rfl (lv_at hl 0 rfl) ?_
  refine lv_aload_n hx hb dX1_keep_1 rfl (lv_at hl 1 rfl) ?_
  refine gx_goi (wc := [(h0, .inr (1, [.int (nI sz), v1, v2, v3, v4, v5, .int (nI wd), .ref a7, .ref a8, .ref a9])), (a, .inl (cI, 34, .inl f))]) (wr := [(a7, .inl (cI, rl, .inl rf)), (a8, .inl (cI, 4096, .inl sl)), (a9, .inl (cI, 3000, .inl cm))]) (va_runV (As := [.ref a]) (rest := []) ⟨hx, hb, hml, hown, hts⟩ (x_hashOf l D cI cB cZ h0 a (.int (nI sz)) (v1) (v2) (v3) (v4) (v5) (.ref a7) (.ref a8) (.ref a9) wd f (by omega) (by omega) _) (cwV 1 hts gP_x_keep__x_hashOf rfl rfl rfl (by decide +kernel) ⟨Nat.le_of_ble_eq_true rfl, Nat.le_of_ble_eq_true rfl⟩) (gx_preV (ci := 1) (q0 := 0) hK gN.nil hP hD [0, 1] rfl rfl rfl rfl) rfl rfl hl.1 rfl (lv_room (Nat.le_of_ble_eq_true rfl)) dX1_keep_2 ⟨(by show (0) + 0 ≤ 21; exact Nat.le_of_ble_eq_true rfl), (by show (0) + 0 ≤ 200800; exact Nat.le_of_ble_eq_true rfl)⟩) hP hD hS hA [0, 1] [2, 3, 4] rfl rfl rfl (by decide) (fun r1 w1 H locs hp hP hD hS => ?_)
  obtain ⟨e_1, hx2_0, h9, rfl⟩ := hp
  have h9 := h9.symm
  subst h9
  have hx2_0 : e_1 = gHs f wd := hx2_0
  refine W.widen (k := 0) (n := 0) (Nat.le_refl _) (Nat.le_refl _) ?_
  refine lv_istore_n (lv' := [(3, .int e_1), (0, .ref h0), (1, .ref a), (2, .int x)]) hx hb dX1_keep_5 rfl hl (by decide) rfl (fun ls hl => ?_)
  refine lv_iload_n hx hb dX1_keep_6 rfl (lv_at hl 0 rfl) ?_
  refine lv_sipush (v := 4095) hx hb dX1_keep_7 (by decide) ?_
  refine lv_iand hx hb dX1_keep_10 ?_
  refine gx_top (pk_and e_1 (m := 4095) 12 (by decide +kernel)) ?_
  have hj2 : (e_1).toBitVec.toNat % 4096 < 4096 := Nat.mod_lt _ (by decide)
  refine lv_istore (lv' := [(4, .int (nI ((e_1).toBitVec.toNat % 4096))), (3, .int e_1), (0, .ref h0), (1, .ref a), (2, .int x)]) hx hb dX1_keep_11 hl (by decide) rfl (fun ls hl => ?_)
  refine lv_iconst (v := 0) hx hb dX1_keep_13 (by decide) ?_
  refine lv_istore (lv' := [(5, .int 0), (4, .int (nI ((e_1).toBitVec.toNat % 4096))), (3, .int e_1), (0, .ref h0), (1, .ref a), (2, .int x)]) hx hb dX1_keep_14 hl (by decide) rfl (fun ls hl => ?_)
  refine gy_loop0 (I := fun (x9 : Nat × Nat) H locs ls => (x9.1 ≤ 4096) ∧ (x9.2 < 4096) ∧ (gKp sl rf f wd sz x9.1 x9.2) ∧ va_P D vwCl [(a7, .inl (cI, rl, .inl rf)), (a8, .inl (cI, 4096, .inl sl)), (a9, .inl (cI, 3000, .inl cm)), (h0, .inr (1, [.int (nI sz), v1, v2, v3, v4, v5, .int (nI wd), .ref a7, .ref a8, .ref a9])), (a, .inl (cI, 34, .inl f))] H ∧ va_D A [(a7, .inl (cI, rl, .inl rf)), (a8, .inl (cI, 4096, .inl sl)), (a9, .inl (cI, 3000, .inl cm)), (h0, .inr (1, [.int (nI sz), v1, v2, v3, v4, v5, .int (nI wd), .ref a7, .ref a8, .ref a9])), (a, .inl (cI, 34, .inl f))] ∧ va_S A s.heap H locs ∧ lv_has ls 7 [(5, .int (nI x9.1)), (4, .int (nI x9.2)), (3, .int e_1), (0, .ref h0), (1, .ref a), (2, .int x)]) (μ := fun (x9 : Nat × Nat) => 4096 - x9.1) (fun x9 H locs ls hI ih16 => ?_) (0, ((e_1).toBitVec.toNat % 4096)) ⟨(by show 0 ≤ 4096; exact Nat.le_of_ble_eq_true rfl), (by show ((e_1).toBitVec.toNat % 4096) < 4096; omega), (gKp_0 hx2_0), hP, hD, hS, lv_sub hl [0, 1, 2, 3, 4, 5] rfl⟩
  obtain ⟨i, j⟩ := x9
  obtain ⟨hi16_0, hi16_1, hi16_2, hP, hD, hS, hl⟩ := hI
  have hi16_0 : i ≤ 4096 := hi16_0
  have hi16_1 : j < 4096 := hi16_1
  have hi16_2 : gKp sl rf f wd sz i j := hi16_2
  have hP : va_P D vwCl [(a7, .inl (cI, rl, .inl rf)), (a8, .inl (cI, 4096, .inl sl)), (a9, .inl (cI, 3000, .inl cm)), (h0, .inr (1, [.int (nI sz), v1, v2, v3, v4, v5, .int (nI wd), .ref a7, .ref a8, .ref a9])), (a, .inl (cI, 34, .inl f))] H := hP
  have hD : va_D A [(a7, .inl (cI, rl, .inl rf)), (a8, .inl (cI, 4096, .inl sl)), (a9, .inl (cI, 3000, .inl cm)), (h0, .inr (1, [.int (nI sz), v1, v2, v3, v4, v5, .int (nI wd), .ref a7, .ref a8, .ref a9])), (a, .inl (cI, 34, .inl f))] := hD
  have hS : va_S A s.heap H locs := hS
  have hl : lv_has ls 7 [(5, .int (nI i)), (4, .int (nI j)), (3, .int e_1), (0, .ref h0), (1, .ref a), (2, .int x)] := hl
  refine lv_iload hx hb dX1_keep_16 (lv_at hl 0 rfl) ?_
  refine lv_sipush (v := 4096) hx hb dX1_keep_18 (by decide) ?_
  refine gy_ge (a := i) (b := 4096) (tgt := 93) hx hb (by omega) (by omega) dX1_keep_21 (by decide) (fun c_3 => ?_) (fun c_3 => ?_)
  · refine lv_iconst (v := 0) hx hb dX1_keep_93 (by decide) ?_
    have hP := hP.sub (ws' := [(h0, .inr (1, [.int (nI sz), v1, v2, v3, v4, v5, .int (nI wd), .ref a7, .ref a8, .ref a9])), (a, .inl (cI, 34, .inl f)), (a7, .inl (cI, rl, .inl rf)), (a8, .inl (cI, 4096, .inl sl)), (a9, .inl (cI, 3000, .inl cm))]) [3, 4, 0, 1, 2] rfl
    have hD := hD.sub (ws' := [(h0, .inr (1, [.int (nI sz), v1, v2, v3, v4, v5, .int (nI wd), .ref a7, .ref a8, .ref a9])), (a, .inl (cI, 34, .inl f)), (a7, .inl (cI, rl, .inl rf)), (a8, .inl (cI, 4096, .inl sl)), (a9, .inl (cI, 3000, .inl cm))]) [3, 4, 0, 1, 2] (by decide) rfl
    exact gw_zret (post := po_x_keep cI cB cZ h0 a a7 a8 a9 v1 v2 v3 v4 v5 wd sz rl f rf sl cm x) (w' := [(h0, .inr (1, [.int (nI sz), v1, v2, v3, v4, v5, .int (nI wd), .ref a7, .ref a8, .ref a9])), (a, .inl (cI, 34, .inl f)), (a7, .inl (cI, rl, .inl rf)), (a8, .inl (cI, 4096, .inl sl)), (a9, .inl (cI, 3000, .inl cm))]) (k := (rl - rl) / 4800) (n := 2 * (rl - rl)) hx hb hr hlk hK hP hD hS (by show 0 ≤ 21; exact Nat.le_of_ble_eq_true rfl) (by show 0 ≤ 200800; exact Nat.le_of_ble_eq_true rfl) (by show 0 ≤ (rl - rl) / 4800; exact Nat.zero_le _) (by show 0 ≤ 2 * (rl - rl); exact Nat.zero_le _) dX1_keep_94 rfl ⟨0, sz, a7, rl, rf, sl, cm, (by omega), hrl, (Or.inl rfl), (by omega), (by omega), hsl, hrw, hcm, (gKp_end (show gKp sl rf f wd sz 4096 j by rw [show (4096 : Nat) = i by omega]; exact hi16_2) hsz hHt).elim, rfl, rfl, rfl, rfl⟩
  · refine lv_aload_n hx hb dX1_keep_24 rfl (lv_at hl 3 rfl) ?_
    refine va_get (D := D) (ci := 1) (v := .ref a8) (C := RX1) (T := TX1) (N := 10) hx hb hts (fun _ h => List.mem_cons_of_mem _ (List.mem_append_left _ (List.mem_append_right _ h))) hown hK hP 3 rfl rfl 8 (by decide) (hts (.fieldLink RX1 35 "LitmusHall$Explorer" "slots" "[I") (by decide +kernel)) (fun _ h9 => h9) rfl dX1_keep_25 ?_
    refine lv_iload hx hb dX1_keep_28 (lv_at hl 1 rfl) ?_
    refine gy_ild (i := j) hx hb hK hP 1 rfl (by omega) (by omega) dX1_keep_30 ?_
    refine lv_istore (lv' := [(6, .int (sl j)), (5, .int (nI i)), (4, .int (nI j)), (3, .int e_1), (0, .ref h0), (1, .ref a), (2, .int x)]) hx hb dX1_keep_31 hl (by decide) rfl (fun ls hl => ?_)
    refine lv_iload hx hb dX1_keep_33 (lv_at hl 0 rfl) ?_
    refine lv_if_ne (tgt := 48) hx hb dX1_keep_35 (by decide) (fun c_4 => ?_) (fun c_4 => ?_)
    · have hsj := (hsl j (by omega)).resolve_left c_4
      have h09 := c_4
      obtain ⟨n9, hn9, en9⟩ := (hHt.1 j (by omega)).resolve_left h09
      refine lv_iload hx hb dX1_keep_48 (lv_at hl 0 rfl) ?_
      refine lv_iload_n hx hb dX1_keep_50 rfl (lv_at hl 3 rfl) ?_
      refine lv_ixor hx hb dX1_keep_51 ?_
      refine lv_sipush (v := (-4096)) hx hb dX1_keep_52 (by decide) ?_
      refine lv_iand hx hb dX1_keep_55 ?_
      refine lv_if_ne (tgt := 77) hx hb dX1_keep_56 (by decide) (fun c_5 => ?_) (fun c_5 => ?_)
      · refine lv_iload hx hb dX1_keep_77 (lv_at hl 2 rfl) ?_
        refine lv_iconst (v := 1) hx hb dX1_keep_79 (by decide) ?_
        refine lv_iadd hx hb dX1_keep_80 ?_
        refine gx_top (y := nI (j + 1)) (nI_add j 1) ?_
        refine lv_sipush (v := 4095) hx hb dX1_keep_81 (by decide) ?_
        refine lv_iand hx hb dX1_keep_84 ?_
        refine gx_top (pk_and (nI (j + 1)) (m := 4095) 12 (by decide +kernel)) ?_
        have hj6 : (nI (j + 1)).toBitVec.toNat % 4096 < 4096 := Nat.mod_lt _ (by decide)
        refine lv_istore (lv' := [(4, .int (nI ((nI (j + 1)).toBitVec.toNat % 4096))), (6, .int (sl j)), (5, .int (nI i)), (3, .int e_1), (0, .ref h0), (1, .ref a), (2, .int x)]) hx hb dX1_keep_85 hl (by decide) rfl (fun ls hl => ?_)
        refine lv_iinc (v := nI (i + 1)) (lv' := [(5, .int (nI (i + 1))), (4, .int (nI ((nI (j + 1)).toBitVec.toNat % 4096))), (6, .int (sl j)), (3, .int e_1), (0, .ref h0), (1, .ref a), (2, .int x)]) hx hb dX1_keep_87 hl (k := 2) rfl (nI_add i 1) (by decide) rfl (fun ls hl => ?_)
        refine lv_goto (tgt := 16) hx hb dX1_keep_90 (by decide) ?_
        exact ih16 ((i + 1), ((nI (j + 1)).toBitVec.toNat % 4096)) H locs ls ⟨(by show (i + 1) ≤ 4096; omega), (by show ((nI (j + 1)).toBitVec.toNat % 4096) < 4096; omega), (gKp_u (gKp_s hi16_2 hsz h09 en9 hn9 (by first | exact fun q => c_5 (by rw [en9, hx2_0, ← gHs_ag q]; exact gEnt_x (by omega)) | (rw [← hnum]; exact (hx69_0.resolve_left (fun q => absurd (q.1.symm.trans c_5) (by decide))).2))) (show (nI (j + 1)).toBitVec.toNat % 4096 = (j + 1) % 4096 by rw [pk_tn (by omega)])), hP, hD, hS, lv_sub hl [0, 1, 3, 4, 5, 6] rfl⟩ (by show 4096 - (i + 1) < 4096 - i; omega)
      · have hnum : (sl j).toBitVec.toNat % 4096 - 1 = n9 := by rw [en9, gEnt_lo (by omega)]; omega
        refine lv_aload_n hx hb dX1_keep_59 rfl (lv_at hl 4 rfl) ?_
        refine lv_iload hx hb dX1_keep_60 (lv_at hl 0 rfl) ?_
        refine lv_sipush (v := 4095) hx hb dX1_keep_62 (by decide) ?_
        refine lv_iand hx hb dX1_keep_65 ?_
        refine gx_top (pk_and (sl j) (m := 4095) 12 (by decide +kernel)) ?_
        have hj7 : (sl j).toBitVec.toNat % 4096 < 4096 := Nat.mod_lt _ (by decide)
        refine lv_iconst (v := 1) hx hb dX1_keep_66 (by decide) ?_
        refine lv_isub hx hb dX1_keep_67 ?_
        refine gx_top (y := nI (((sl j).toBitVec.toNat % 4096) - 1)) (pk_sub (a := (sl j).toBitVec.toNat % 4096) (b := 1) (by omega)) ?_
        refine lv_aload_n hx hb dX1_keep_68 rfl (lv_at hl 5 rfl) ?_
        have hrow := gy_row (n := (sl j).toBitVec.toNat % 4096 - 1) (sz := sz) (wd := wd) (by omega)
        refine gx_goi (wc := [(h0, .inr (1, [.int (nI sz), v1, v2, v3, v4, v5, .int (nI wd), .ref a7, .ref a8, .ref a9])), (a, .inl (cI, 34, .inl f)), (a7, .inl (cI, rl, .inl rf))]) (wr := [(a8, .inl (cI, 4096, .inl sl)), (a9, .inl (cI, 3000, .inl cm))]) (va_runV (As := [.int (nI (((sl j).toBitVec.toNat % 4096) - 1)), .ref a]) (rest := []) ⟨hx, hb, hml, hown, hts⟩ (x_xSame l D cI cB cZ h0 a a7 (.int (nI sz)) (v1) (v2) (v3) (v4) (v5) (.ref a8) (.ref a9) wd rl rf f (((sl j).toBitVec.toNat % 4096) - 1) (by omega) (by omega) (by omega) (by omega) _) (cwV 2 hts gP_x_keep__x_xSame rfl rfl rfl (by decide +kernel) ⟨Nat.le_of_ble_eq_true rfl, Nat.le_of_ble_eq_true rfl⟩) (gx_preV (ci := 1) (q0 := 0) hK gN.nil hP hD [3, 4, 0] rfl rfl rfl rfl) rfl rfl hl.1 rfl (lv_room (Nat.le_of_ble_eq_true rfl)) dX1_keep_69 ⟨(by show (0) + 0 ≤ 21; exact Nat.le_of_ble_eq_true rfl), (by show (0) + 0 ≤ 200800; exact Nat.le_of_ble_eq_true rfl)⟩) hP hD hS hA [3, 4, 0] [1, 2] rfl rfl rfl (by decide) (fun r1 w1 H locs hp hP hD hS => ?_)
        obtain ⟨e_8, hq_9, hx69_0, h9, rfl⟩ := hp
        have h9 := h9.symm
        subst h9
        have hq_9 : e_8 = 0 ∨ e_8 = 1 := hq_9
        have hx69_0 : (e_8 = 1 ∧ gAg wd (gRo rf wd (((sl j).toBitVec.toNat % 4096) - 1)) f) ∨ (e_8 = 0 ∧ ¬ gAg wd (gRo rf wd (((sl j).toBitVec.toNat % 4096) - 1)) f) := hx69_0
        refine W.widen (k := 0) (n := 0) (Nat.le_refl _) (Nat.le_refl _) ?_
        refine lv_if_eq (tgt := 77) hx hb dX1_keep_72 (by decide) (fun c_10 => ?_) (fun c_10 => ?_)
        · refine lv_iload hx hb dX1_keep_77 (lv_at hl 2 rfl) ?_
          refine lv_iconst (v := 1) hx hb dX1_keep_79 (by decide) ?_
          refine lv_iadd hx hb dX1_keep_80 ?_
          refine gx_top (y := nI (j + 1)) (nI_add j 1) ?_
          refine lv_sipush (v := 4095) hx hb dX1_keep_81 (by decide) ?_
          refine lv_iand hx hb dX1_keep_84 ?_
          refine gx_top (pk_and (nI (j + 1)) (m := 4095) 12 (by decide +kernel)) ?_
          have hj11 : (nI (j + 1)).toBitVec.toNat % 4096 < 4096 := Nat.mod_lt _ (by decide)
          refine lv_istore (lv' := [(4, .int (nI ((nI (j + 1)).toBitVec.toNat % 4096))), (6, .int (sl j)), (5, .int (nI i)), (3, .int e_1), (0, .ref h0), (1, .ref a), (2, .int x)]) hx hb dX1_keep_85 hl (by decide) rfl (fun ls hl => ?_)
          refine lv_iinc (v := nI (i + 1)) (lv' := [(5, .int (nI (i + 1))), (4, .int (nI ((nI (j + 1)).toBitVec.toNat % 4096))), (6, .int (sl j)), (3, .int e_1), (0, .ref h0), (1, .ref a), (2, .int x)]) hx hb dX1_keep_87 hl (k := 2) rfl (nI_add i 1) (by decide) rfl (fun ls hl => ?_)
          refine lv_goto (tgt := 16) hx hb dX1_keep_90 (by decide) ?_
          have hP := hP.sub (ws' := [(a7, .inl (cI, rl, .inl rf)), (a8, .inl (cI, 4096, .inl sl)), (a9, .inl (cI, 3000, .inl cm)), (h0, .inr (1, [.int (nI sz), v1, v2, v3, v4, v5, .int (nI wd), .ref a7, .ref a8, .ref a9])), (a, .inl (cI, 34, .inl f))]) [4, 0, 1, 2, 3] rfl
          have hD := hD.sub (ws' := [(a7, .inl (cI, rl, .inl rf)), (a8, .inl (cI, 4096, .inl sl)), (a9, .inl (cI, 3000, .inl cm)), (h0, .inr (1, [.int (nI sz), v1, v2, v3, v4, v5, .int (nI wd), .ref a7, .ref a8, .ref a9])), (a, .inl (cI, 34, .inl f))]) [4, 0, 1, 2, 3] (by decide) rfl
          exact ih16 ((i + 1), ((nI (j + 1)).toBitVec.toNat % 4096)) H locs ls ⟨(by show (i + 1) ≤ 4096; omega), (by show ((nI (j + 1)).toBitVec.toNat % 4096) < 4096; omega), (gKp_u (gKp_s hi16_2 hsz h09 en9 hn9 (by first | exact fun q => c_10 (by rw [en9, hx2_0, ← gHs_ag q]; exact gEnt_x (by omega)) | (rw [← hnum]; exact (hx69_0.resolve_left (fun q => absurd (q.1.symm.trans c_10) (by decide))).2))) (show (nI (j + 1)).toBitVec.toNat % 4096 = (j + 1) % 4096 by rw [pk_tn (by omega)])), hP, hD, hS, lv_sub hl [0, 1, 3, 4, 5, 6] rfl⟩ (by show 4096 - (i + 1) < 4096 - i; omega)
        · refine lv_iconst (v := 1) hx hb dX1_keep_75 (by decide) ?_
          have hP := hP.sub (ws' := [(h0, .inr (1, [.int (nI sz), v1, v2, v3, v4, v5, .int (nI wd), .ref a7, .ref a8, .ref a9])), (a, .inl (cI, 34, .inl f)), (a7, .inl (cI, rl, .inl rf)), (a8, .inl (cI, 4096, .inl sl)), (a9, .inl (cI, 3000, .inl cm))]) [2, 3, 4, 0, 1] rfl
          have hD := hD.sub (ws' := [(h0, .inr (1, [.int (nI sz), v1, v2, v3, v4, v5, .int (nI wd), .ref a7, .ref a8, .ref a9])), (a, .inl (cI, 34, .inl f)), (a7, .inl (cI, rl, .inl rf)), (a8, .inl (cI, 4096, .inl sl)), (a9, .inl (cI, 3000, .inl cm))]) [2, 3, 4, 0, 1] (by decide) rfl
          exact gw_zret (post := po_x_keep cI cB cZ h0 a a7 a8 a9 v1 v2 v3 v4 v5 wd sz rl f rf sl cm x) (w' := [(h0, .inr (1, [.int (nI sz), v1, v2, v3, v4, v5, .int (nI wd), .ref a7, .ref a8, .ref a9])), (a, .inl (cI, 34, .inl f)), (a7, .inl (cI, rl, .inl rf)), (a8, .inl (cI, 4096, .inl sl)), (a9, .inl (cI, 3000, .inl cm))]) (k := (rl - rl) / 4800) (n := 2 * (rl - rl)) hx hb hr hlk hK hP hD hS (by show 0 ≤ 21; exact Nat.le_of_ble_eq_true rfl) (by show 0 ≤ 200800; exact Nat.le_of_ble_eq_true rfl) (by show 0 ≤ (rl - rl) / 4800; exact Nat.zero_le _) (by show 0 ≤ 2 * (rl - rl); exact Nat.zero_le _) dX1_keep_76 rfl ⟨1, sz, a7, rl, rf, sl, cm, (by omega), hrl, (Or.inr rfl), (by omega), (by omega), hsl, hrw, hcm, (Or.inl ⟨rfl, ⟨n9, hn9, by rw [← hnum]; exact (hx69_0.resolve_right (fun q => c_10 q.1)).2⟩, rfl, rfl, rfl, rfl⟩), rfl, rfl, rfl, rfl⟩
    · have hj0 := c_4
      refine lv_aload_n hx hb dX1_keep_38 rfl (lv_at hl 4 rfl) ?_
      refine lv_aload_n hx hb dX1_keep_39 rfl (lv_at hl 5 rfl) ?_
      refine lv_iload_n hx hb dX1_keep_40 rfl (lv_at hl 6 rfl) ?_
      refine lv_iload hx hb dX1_keep_41 (lv_at hl 2 rfl) ?_
      refine lv_iload_n hx hb dX1_keep_43 rfl (lv_at hl 3 rfl) ?_
      refine gw_goi (post := po_x_add cI cB cZ h0 a a7 a8 a9 (v1) (v2) (v3) (v4) (v5) wd sz rl f rf sl cm x j e_1) (wc := [(h0, .inr (1, [.int (nI sz), v1, v2, v3, v4, v5, .int (nI wd), .ref a7, .ref a8, .ref a9])), (a, .inl (cI, 34, .inl f)), (a7, .inl (cI, rl, .inl rf)), (a8, .inl (cI, 4096, .inl sl)), (a9, .inl (cI, 3000, .inl cm))]) (wr := []) (va_runV (As := [.ref a, .int x, .int (nI j), .int e_1]) (rest := []) ⟨hx, hb, hml, hown, hts⟩ (x_add l D cI cB cZ h0 a a7 a8 a9 (v1) (v2) (v3) (v4) (v5) wd sz rl f rf sl cm x j e_1 (by omega) (by omega) hrl (by omega) (by omega) (by omega) hsl hrw hcm hf hx0 (by omega) _ _) (cwV 4 hts gP_x_keep__x_add rfl rfl rfl (by decide +kernel) ⟨Nat.le_of_ble_eq_true rfl, Nat.le_of_ble_eq_true rfl⟩) (gw_preV (ci := 1) (q0 := 0) hK gN.nil hP hD [3, 4, 0, 1, 2] rfl rfl rfl rfl) rfl rfl hl.1 rfl (lv_room (Nat.le_of_ble_eq_true rfl)) dX1_keep_44 ⟨(by show (0) + 21 ≤ 21; exact Nat.le_of_ble_eq_true rfl), (by show (0) + 200800 ≤ 200800; exact Nat.le_of_ble_eq_true rfl)⟩) hP hD hS hA [3, 4, 0, 1, 2] [] rfl rfl rfl (by decide) (fun r1 w1 k1 n1 H locs hp hP hD hS => ?_)
      obtain ⟨e_12, e_13, e_14, e_15, e_16, e_17, e_18, hq_19, hq_20, hq_21, hq_22, hq_23, hq_24, hq_25, hq_26, hx44_0, hk1, hn1, h9, rfl⟩ := hp
      have hk1 := hk1.symm; subst hk1; have hn1 := hn1.symm; subst hn1
      have h9 := h9.symm
      subst h9
      have hq_19 : rl ≤ e_15 := hq_19
      have hq_20 : gRl e_15 := hq_20
      have hq_21 : gZ e_12 := hq_21
      have hq_22 : sz ≤ e_13 ∧ e_13 ≤ 3000 ∧ e_15 ≤ 102000 := hq_22
      have hq_23 : e_13 * wd ≤ e_15 := hq_23
      have hq_24 : gSl e_17 e_13 := hq_24
      have hq_25 : gRw e_16 wd e_13 := hq_25
      have hq_26 : gCm e_18 e_13 := hq_26
      have hx44_0 : (e_12 = 0 ∧ sz = 3000 ∧ e_13 = sz ∧ e_16 = rf ∧ e_18 = cm ∧ e_17 = sl) ∨ (e_12 = 1 ∧ sz < 3000 ∧ e_13 = sz + 1 ∧ (∀ j, j < sz * wd → e_16 j = rf j) ∧ (∀ j, j < wd → e_16 (sz * wd + j) = f j) ∧ e_18 = upd cm sz x ∧ e_17 = upd sl j ((e_1 &&& (-4096)) ||| nI (sz + 1))) := hx44_0
      refine W.widen (k := 0 + ((e_15 - rl) / 4800)) (n := 0 + (2 * (e_15 - rl))) (Nat.le_refl _) (Nat.le_refl _) ?_
      exact gw_zret (post := po_x_keep cI cB cZ h0 a a7 a8 a9 v1 v2 v3 v4 v5 wd sz rl f rf sl cm x) (w' := [(h0, .inr (1, [.int (nI e_13), v1, v2, v3, v4, v5, .int (nI wd), .ref e_14, .ref a8, .ref a9])), (a, .inl (cI, 34, .inl f)), (e_14, .inl (cI, e_15, .inl e_16)), (a8, .inl (cI, 4096, .inl e_17)), (a9, .inl (cI, 3000, .inl e_18))]) (k := (e_15 - rl) / 4800) (n := 2 * (e_15 - rl)) hx hb hr hlk hK hP hD hS (by show 0 + ((e_15 - rl) / 4800) ≤ 21; omega) (by show 0 + (2 * (e_15 - rl)) ≤ 200800; omega) (by show 0 + ((e_15 - rl) / 4800) ≤ (e_15 - rl) / 4800; omega) (by show 0 + (2 * (e_15 - rl)) ≤ 2 * (e_15 - rl); omega) dX1_keep_47 (gy_z01 hq_21) ⟨e_12, e_13, e_14, e_15, e_16, e_17, e_18, (by omega), hq_20, hq_21, (by omega), (by omega), hq_24, hq_25, hq_26, (Or.inr ⟨gKp_no hi16_2 hsz hHt hj0, hx44_0.imp (fun h => ⟨h.1, h.2.1⟩) (fun h => ⟨h.1, h.2.1, h.2.2.1, h.2.2.2.1, h.2.2.2.2.1, h.2.2.2.2.2.1, by rw [h.2.2.2.2.2.2, h.2.2.1]; exact gHt_add hi16_2 (by omega) h.2.1 hHt hj0 hx2_0 h.2.2.2.1 h.2.2.2.2.1⟩)⟩), rfl, rfl, rfl, rfl⟩
