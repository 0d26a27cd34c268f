
def wsP_x_isBefore : List Cond := .code yX1_isBefore cX1_isBefore 6 (some .boolean) :: (([.fieldLink RX1 32 "LitmusHall$Explorer" "rows" "[I", .fieldLink RX1 28 "LitmusHall$Explorer" "width" "I"] ++ wsX10) ++ [])
theorem gW_x_isBefore : wsP_x_isBefore.all goodWord = true := by unfold wsP_x_isBefore; exact gw_mk (by decide +kernel) rfl
set_option maxHeartbeats 4000000 in
set_option maxRecDepth 100000 in
theorem x_isBefore (l : Launch) (D : va_G) (cI cB cZ : ClassId) (h0 : Nat) (a7 : Nat) (v0 : Value) (v1 : Value) (v2 : Value) (v3 : Value) (v4 : Value) (v5 : Value) (v8 : Value) (v9 : Value) (wd : Nat) (rl : Nat) (rf : Nat → Int32) (n : Nat) (q : Nat) (hw16 : 16 ≤ wd) (hw34 : wd ≤ 34) (hrl : rl ≤ 102000) (hn : n * wd + wd ≤ rl) (hq : q * wd + wd ≤ rl) : gMi l yX1_isBefore wsP_x_isBefore ({ frames := 0, cells := 0, slots := 0, locals := 0 }) D cI cB cZ [] [.ref h0, .int (nI n), .int (nI q)] [(h0, .inr (1, [v0, v1, v2, v3, v4, v5, .int (nI wd), .ref a7, v8, v9])), (a7, .inl (cI, rl, .inl rf))] (fun r9 w9 => ∃ z : Int32, (z = 0 ∨ z = 1) ∧ ((z = 1 ∧ gOl (gRo rf wd n) (gRo rf wd q)) ∨ (z = 0 ∧ ¬ gOl (gRo rf wd n) (gRo rf wd q))) ∧ r9 = z ∧ w9 = [(h0, .inr (1, [v0, v1, v2, v3, v4, v5, .int (nI wd), .ref a7, v8, v9])), (a7, .inl (cI, rl, .inl rf))]) := by
  refine gMi.of (cc := cX1_isBefore) (maxL := 6) (ret := (some .boolean)) (by decide) rfl (Nat.le_of_ble_eq_true rfl) (fun p e s m below meth c A ls hx hb hr hlk hml hts hown hin hA hP hK hD hS hN hl => ?_)
  have hown : s.vm.findClass RX1 = some m.cls := hown
  have hl : lv_has ls 6 [(0, .ref h0), (1, .int (nI n)), (2, .int (nI q))] := hl
  refine lv_iconst (v := 0) hx hb dX1_isBefore_0 (by decide) ?_
  refine lv_istore_n (lv' := [(3, .int 0), (0, .ref h0), (1, .int (nI n)), (2, .int (nI q))]) hx hb dX1_isBefore_1 rfl hl (by decide) rfl (fun ls hl => ?_)
  refine gy_loop0 (I := fun (x9 : Nat) H locs ls => (x9 ≤ 13) ∧ (∀ j, j < x9 → gRo rf wd n j = gRo rf wd q j) ∧ va_P D vwCl [(h0, .inr (1, [v0, v1, v2, v3, v4, v5, .int (nI wd), .ref a7, v8, v9])), (a7, .inl (cI, rl, .inl rf))] H ∧ va_D A [(h0, .inr (1, [v0, v1, v2, v3, v4, v5, .int (nI wd), .ref a7, v8, v9])), (a7, .inl (cI, rl, .inl rf))] ∧ va_S A s.heap H locs ∧ lv_has ls 6 [(3, .int (nI x9)), (0, .ref h0), (1, .int (nI n)), (2, .int (nI q))]) (μ := fun (x9 : Nat) => 13 - x9) (fun x9 H locs ls hI ih2 => ?_) 0 ⟨(by show 0 ≤ 13; exact Nat.le_of_ble_eq_true rfl), (fun j h => absurd h (Nat.not_lt_zero j)), hP, hD, hS, lv_sub hl [0, 1, 2, 3] rfl⟩
  obtain ⟨i, rfl⟩ : ∃ z9, z9 = x9 := ⟨_, rfl⟩
  obtain ⟨hi2_0, hi2_1, hP, hD, hS, hl⟩ := hI
  have hi2_0 : i ≤ 13 := hi2_0
  have hi2_1 : ∀ j, j < i → gRo rf wd n j = gRo rf wd q j := hi2_1
  have hP : va_P D vwCl [(h0, .inr (1, [v0, v1, v2, v3, v4, v5, .int (nI wd), .ref a7, v8, v9])), (a7, .inl (cI, rl, .inl rf))] H := hP
  have hD : va_D A [(h0, .inr (1, [v0, v1, v2, v3, v4, v5, .int (nI wd), .ref a7, v8, v9])), (a7, .inl (cI, rl, .inl rf))] := hD
  have hS : va_S A s.heap H locs := hS
  have hl : lv_has ls 6 [(3, .int (nI i)), (0, .ref h0), (1, .int (nI n)), (2, .int (nI q))] := hl
  refine lv_iload_n hx hb dX1_isBefore_2 rfl (lv_at hl 0 rfl) ?_
  refine lv_bipush (v := 13) hx hb dX1_isBefore_3 (by decide) ?_
  refine gy_ge (a := i) (b := 13) (tgt := 64) hx hb (by omega) (by omega) dX1_isBefore_5 (by decide) (fun c_1 => ?_) (fun c_1 => ?_)
  · refine lv_iconst (v := 0) hx hb dX1_isBefore_64 (by decide) ?_
    exact gx_zret (w' := [(h0, .inr (1, [v0, v1, v2, v3, v4, v5, .int (nI wd), .ref a7, v8, v9])), (a7, .inl (cI, rl, .inl rf))]) hx hb hr hlk hK hP hD hS (Nat.le_of_ble_eq_true rfl) (Nat.le_of_ble_eq_true rfl) dX1_isBefore_65 rfl ⟨0, (by decide), (Or.inr ⟨rfl, gOl_eq (fun j h => hi2_1 j (by omega))⟩), rfl, rfl⟩
  · refine lv_aload_n hx hb dX1_isBefore_8 rfl (lv_at hl 1 rfl) ?_
    refine va_get (D := D) (ci := 1) (v := .ref a7) (C := RX1) (T := TX1) (N := 10) hx hb hts (fun _ h => List.mem_cons_of_mem _ (List.mem_append_left _ (List.mem_append_right _ h))) hown hK hP 0 rfl rfl 7 (by decide) (hts (.fieldLink RX1 32 "LitmusHall$Explorer" "rows" "[I") (by decide +kernel)) (fun _ h9 => h9) rfl dX1_isBefore_9 ?_
    refine lv_iload_n hx hb dX1_isBefore_12 rfl (lv_at hl 2 rfl) ?_
    refine lv_aload_n hx hb dX1_isBefore_13 rfl (lv_at hl 1 rfl) ?_
    refine va_get (D := D) (ci := 1) (v := .int (nI wd)) (C := RX1) (T := TX1) (N := 10) hx hb hts (fun _ h => List.mem_cons_of_mem _ (List.mem_append_left _ (List.mem_append_right _ h))) hown hK hP 0 rfl rfl 6 (by decide) (hts (.fieldLink RX1 28 "LitmusHall$Explorer" "width" "I") (by decide +kernel)) (fun _ h9 => h9) rfl dX1_isBefore_14 ?_
    refine lv_imul hx hb dX1_isBefore_17 ?_
    refine gx_top (y := nI (n * wd)) (pk_mul n wd) ?_
    refine lv_iload_n hx hb dX1_isBefore_18 rfl (lv_at hl 0 rfl) ?_
    refine lv_iadd hx hb dX1_isBefore_19 ?_
    refine gx_top (y := nI ((n * wd) + i)) (nI_add (n * wd) i) ?_
    refine gy_ild (i := ((n * wd) + i)) hx hb hK hP 1 rfl (by omega) (by omega) dX1_isBefore_20 ?_
    refine lv_istore (lv' := [(4, .int (rf ((n * wd) + i))), (3, .int (nI i)), (0, .ref h0), (1, .int (nI n)), (2, .int (nI q))]) hx hb dX1_isBefore_21 hl (by decide) rfl (fun ls hl => ?_)
    refine lv_aload_n hx hb dX1_isBefore_23 rfl (lv_at hl 2 rfl) ?_
    refine va_get (D := D) (ci := 1) (v := .ref a7) (C := RX1) (T := TX1) (N := 10) hx hb hts (fun _ h => List.mem_cons_of_mem _ (List.mem_append_left _ (List.mem_append_right _ h))) hown hK hP 0 rfl rfl 7 (by decide) (hts (.fieldLink RX1 32 "LitmusHall$Explorer" "rows" "[I") (by decide +kernel)) (fun _ h9 => h9) rfl dX1_isBefore_24 ?_
    refine lv_iload_n hx hb dX1_isBefore_27 rfl (lv_at hl 4 rfl) ?_
    refine lv_aload_n hx hb dX1_isBefore_28 rfl (lv_at hl 2 rfl) ?_
    refine va_get (D := D) (ci := 1) (v := .int (nI wd)) (C := RX1) (T := TX1) (N := 10) hx hb hts (fun _ h => List.mem_cons_of_mem _ (List.mem_append_left _ (List.mem_append_right _ h))) hown hK hP 0 rfl rfl 6 (by decide) (hts (.fieldLink RX1 28 "LitmusHall$Explorer" "width" "I") (by decide +kernel)) (fun _ h9 => h9) rfl dX1_isBefore_29 ?_
    refine lv_imul hx hb dX1_isBefore_32 ?_
    refine gx_top (y := nI (q * wd)) (pk_mul q wd) ?_
    refine lv_iload_n hx hb dX1_isBefore_33 rfl (lv_at hl 1 rfl) ?_
    refine lv_iadd hx hb dX1_isBefore_34 ?_
    refine gx_top (y := nI ((q * wd) + i)) (nI_add (q * wd) i) ?_
    refine gy_ild (i := ((q * wd) + i)) hx hb hK hP 1 rfl (by omega) (by omega) dX1_isBefore_35 ?_
    refine lv_istore (lv' := [(5, .int (rf ((q * wd) + i))), (4, .int (rf ((n * wd) + i))), (3, .int (nI i)), (0, .ref h0), (1, .int (nI n)), (2, .int (nI q))]) hx hb dX1_isBefore_36 hl (by decide) rfl (fun ls hl => ?_)
    refine lv_iload hx hb dX1_isBefore_38 (lv_at hl 1 rfl) ?_
    refine lv_iload hx hb dX1_isBefore_40 (lv_at hl 0 rfl) ?_
    refine lv_icmp_eq (tgt := 58) hx hb dX1_isBefore_42 (by decide) (fun c_2 => ?_) (fun c_2 => ?_)
    · refine lv_iinc (v := nI (i + 1)) (lv' := [(3, .int (nI (i + 1))), (5, .int (rf ((q * wd) + i))), (4, .int (rf ((n * wd) + i))), (0, .ref h0), (1, .int (nI n)), (2, .int (nI q))]) hx hb dX1_isBefore_58 hl (k := 2) rfl (nI_add i 1) (by decide) rfl (fun ls hl => ?_)
      refine lv_goto (tgt := 2) hx hb dX1_isBefore_61 (by decide) ?_
      exact ih2 (i + 1) H locs ls ⟨(by show (i + 1) ≤ 13; omega), (fun j hj => by by_cases e9 : j = i; (subst e9; exact c_2); exact hi2_1 j (by omega)), hP, hD, hS, lv_sub hl [0, 3, 4, 5] rfl⟩ (by show 13 - (i + 1) < 13 - i; omega)
    · refine lv_iload hx hb dX1_isBefore_45 (lv_at hl 1 rfl) ?_
      refine lv_iload hx hb dX1_isBefore_47 (lv_at hl 0 rfl) ?_
      refine lv_icmp_ge (tgt := 56) hx hb dX1_isBefore_49 (by decide) (fun c_3 => ?_) (fun c_3 => ?_)
      · refine lv_iconst (v := 0) hx hb dX1_isBefore_56 (by decide) ?_
        exact gx_zret (w' := [(h0, .inr (1, [v0, v1, v2, v3, v4, v5, .int (nI wd), .ref a7, v8, v9])), (a7, .inl (cI, rl, .inl rf))]) hx hb hr hlk hK hP hD hS (Nat.le_of_ble_eq_true rfl) (Nat.le_of_ble_eq_true rfl) dX1_isBefore_57 rfl ⟨0, (by decide), (by first | exact Or.inl ⟨rfl, i, by omega, hi2_1, Int32.not_le.mp c_3⟩ | exact Or.inr ⟨rfl, gOl_no (by omega) hi2_1 c_2 (Int32.not_lt.mpr c_3)⟩), rfl, rfl⟩
      · refine lv_iconst (v := 1) hx hb dX1_isBefore_52 (by decide) ?_
        refine lv_goto (tgt := 57) hx hb dX1_isBefore_53 (by decide) ?_
        exact gx_zret (w' := [(h0, .inr (1, [v0, v1, v2, v3, v4, v5, .int (nI wd), .ref a7, v8, v9])), (a7, .inl (cI, rl, .inl rf))]) hx hb hr hlk hK hP hD hS (Nat.le_of_ble_eq_true rfl) (Nat.le_of_ble_eq_true rfl) dX1_isBefore_57 rfl ⟨1, (by decide), (by first | exact Or.inl ⟨rfl, i, by omega, hi2_1, Int32.not_le.mp c_3⟩ | exact Or.inr ⟨rfl, gOl_no (by omega) hi2_1 c_2 (Int32.not_lt.mpr c_3)⟩), rfl, rfl⟩
def wsP_x_addEnd : List Cond := .code yX1_addEnd cX1_addEnd 6 none :: (([.fieldLink RX1 50 "LitmusHall$Explorer" "endSize" "I", .fieldLink RX1 13 "LitmusHall$Explorer" "ends" "[I", .methodLink RX1 83 arraycopyName, .native arraycopyName, .static arraycopyName, .initialized "java/lang/System", .methodLink RX1 117 yX1_isBefore, .instanceMethod yX1_isBefore, .selects RX1 yX1_isBefore yX1_isBefore, .initialized RX1] ++ wsX10) ++ (wsP_x_isBefore ++ []))
theorem gW_x_addEnd : wsP_x_addEnd.all goodWord = true := by unfold wsP_x_addEnd; exact gw_mk (by decide +kernel) (gw_app gW_x_isBefore rfl)
set_option maxRecDepth 20000 in
theorem gP_x_addEnd__x_isBefore : GoodIn wsP_x_addEnd (wsV RX1 117 RX1 yX1_isBefore wsP_x_isBefore) := gw_in (pre := [.methodLink RX1 117 yX1_isBefore, .instanceMethod yX1_isBefore, .selects RX1 yX1_isBefore yX1_isBefore, .initialized RX1]) (by decide +kernel) (fun _ h => List.mem_cons_of_mem _ (List.mem_append_right _ (List.mem_append_left _ h))) gW_x_isBefore
set_option maxHeartbeats 4000000 in
set_option maxRecDepth 100000 in
theorem x_addEnd (l : Launch) (D : va_G) (cI cB cZ : ClassId) (h0 : Nat) (a2 : Nat) (a7 : Nat) (v0 : Value) (v3 : Value) (v4 : Value) (v5 : Value) (v8 : Value) (v9 : Value) (wd : Nat) (es : Nat) (sz : Nat) (rl : Nat) (rf : Nat → Int32) (ef : Nat → Int32) (n : Nat) (el : Nat → Nat) (hw16 : 16 ≤ wd) (hw34 : wd ≤ 34) (hrl : rl ≤ 102000) (hes : es < 3000) (hsz : sz ≤ 3000) (hfit : sz * wd ≤ rl) (hn : n < sz) (hen : gEn ef es sz) (hee : ∀ i, i < es → ef i = nI (el i) ∧ el i < sz) (hso : ∀ i j, i < j → j < es → ¬ gOl (gRo rf wd (el j)) (gRo rf wd (el i))) : gMv l yX1_addEnd wsP_x_addEnd ({ frames := 1, cells := 0, slots := 0, locals := 40 }) D cI cB cZ [] [.ref h0, .int (nI n)] [(h0, .inr (1, [v0, .int (nI es), .ref a2, v3, v4, v5, .int (nI wd), .ref a7, v8, v9])), (a2, .inl (cI, 3000, .inl ef)), (a7, .inl (cI, rl, .inl rf))] (fun w9 => ∃ ef9 : Nat → Int32, (gEn ef9 (es + 1) sz) ∧ (∃ lo, gAw (gRo rf wd) el es n lo ∧ ∀ i, i < es + 1 → ef9 i = nI (gIq el lo n i)) ∧ w9 = [(h0, .inr (1, [v0, .int (nI (es + 1)), .ref a2, v3, v4, v5, .int (nI wd), .ref a7, v8, v9])), (a2, .inl (cI, 3000, .inl ef9)), (a7, .inl (cI, rl, .inl rf))]) := by
  refine gMv.of (cc := cX1_addEnd) (maxL := 6) (ret := none) (by decide) rfl (Nat.le_of_ble_eq_true rfl) (fun p e s m below meth c A ls hx hb hr hlk hml hts hown hin hA hP hK hD hS hN hl => ?_)
  have hown : s.vm.findClass RX1 = some m.cls := hown
  have hl : lv_has ls 6 [(0, .ref h0), (1, .int (nI n))] := hl
  refine lv_iconst (v := 0) hx hb dX1_addEnd_0 (by decide) ?_
  refine lv_istore_n (lv' := [(2, .int 0), (0, .ref h0), (1, .int (nI n))]) hx hb dX1_addEnd_1 rfl hl (by decide) rfl (fun ls hl => ?_)
  refine lv_aload_n hx hb dX1_addEnd_2 rfl (lv_at hl 1 rfl) ?_
  refine va_get (D := D) (ci := 1) (v := .int (nI es)) (C := RX1) (T := TX1) (N := 10) hx hb hts (fun _ h => List.mem_cons_of_mem _ (List.mem_append_left _ (List.mem_append_right _ h))) hown hK hP 0 rfl rfl 1 (by decide) (hts (.fieldLink RX1 50 "LitmusHall$Explorer" "endSize" "I") (by decide +kernel)) (fun _ h9 => h9) rfl dX1_addEnd_3 ?_
  refine lv_istore_n (lv' := [(3, .int (nI es)), (2, .int 0), (0, .ref h0), (1, .int (nI n))]) hx hb dX1_addEnd_6 rfl hl (by decide) rfl (fun ls hl => ?_)
  refine lv_iconst (v := 0) hx hb dX1_addEnd_7 (by decide) ?_
  refine lv_istore (lv' := [(4, .int 0), (3, .int (nI es)), (2, .int 0), (0, .ref h0), (1, .int (nI n))]) hx hb dX1_addEnd_8 hl (by decide) rfl (fun ls hl => ?_)
  refine gy_loop0 (I := fun (x9 : Nat × Nat × Nat) H locs ls => (x9.1 ≤ 3000) ∧ (x9.2.1 ≤ x9.2.2) ∧ (x9.2.2 ≤ es) ∧ (∀ t, t < x9.2.1 → gOl (gRo rf wd (el t)) (gRo rf wd n)) ∧ (∀ t, x9.2.2 ≤ t → t < es → ¬ gOl (gRo rf wd (el t)) (gRo rf wd n)) ∧ (x9.1 + (x9.2.2 - x9.2.1) ≤ es) ∧ va_P D vwCl [(h0, .inr (1, [v0, .int (nI es), .ref a2, v3, v4, v5, .int (nI wd), .ref a7, v8, v9])), (a2, .inl (cI, 3000, .inl ef)), (a7, .inl (cI, rl, .inl rf))] H ∧ va_D A [(h0, .inr (1, [v0, .int (nI es), .ref a2, v3, v4, v5, .int (nI wd), .ref a7, v8, v9])), (a2, .inl (cI, 3000, .inl ef)), (a7, .inl (cI, rl, .inl rf))] ∧ va_S A s.heap H locs ∧ lv_has ls 6 [(4, .int (nI x9.1)), (3, .int (nI x9.2.2)), (2, .int (nI x9.2.1)), (0, .ref h0), (1, .int (nI n))]) (μ := fun (x9 : Nat × Nat × Nat) => 3000 - x9.1) (fun x9 H locs ls hI ih10 => ?_) (0, 0, es) ⟨(by show 0 ≤ 3000; exact Nat.le_of_ble_eq_true rfl), (by show 0 ≤ es; exact Nat.zero_le _), (by show es ≤ es; omega), (fun t h => absurd h (Nat.not_lt_zero t)), (fun t a b => absurd b (Nat.not_lt.mpr a)), (by show 0 + (es - 0) ≤ es; omega), hP, hD, hS, lv_sub hl [0, 1, 2, 3, 4] rfl⟩
  obtain ⟨i, lo, hi⟩ := x9
  obtain ⟨hi10_0, hi10_1, hi10_2, hi10_3, hi10_4, hi10_5, hP, hD, hS, hl⟩ := hI
  have hi10_0 : i ≤ 3000 := hi10_0
  have hi10_1 : lo ≤ hi := hi10_1
  have hi10_2 : hi ≤ es := hi10_2
  have hi10_3 : ∀ t, t < lo → gOl (gRo rf wd (el t)) (gRo rf wd n) := hi10_3
  have hi10_4 : ∀ t, hi ≤ t → t < es → ¬ gOl (gRo rf wd (el t)) (gRo rf wd n) := hi10_4
  have hi10_5 : i + (hi - lo) ≤ es := hi10_5
  have hP : va_P D vwCl [(h0, .inr (1, [v0, .int (nI es), .ref a2, v3, v4, v5, .int (nI wd), .ref a7, v8, v9])), (a2, .inl (cI, 3000, .inl ef)), (a7, .inl (cI, rl, .inl rf))] H := hP
  have hD : va_D A [(h0, .inr (1, [v0, .int (nI es), .ref a2, v3, v4, v5, .int (nI wd), .ref a7, v8, v9])), (a2, .inl (cI, 3000, .inl ef)), (a7, .inl (cI, rl, .inl rf))] := hD
  have hS : va_S A s.heap H locs := hS
  have hl : lv_has ls 6 [(4, .int (nI i)), (3, .int (nI hi)), (2, .int (nI lo)), (0, .ref h0), (1, .int (nI n))] := hl
  refine lv_iload hx hb dX1_addEnd_10 (lv_at hl 0 rfl) ?_
  refine lv_sipush (v := 3000) hx hb dX1_addEnd_12 (by decide) ?_
  refine gy_ge (a := i) (b := 3000) (tgt := 62) hx hb (by omega) (by omega) dX1_addEnd_15 (by decide) (fun c_1 => ?_) (fun c_1 => ?_)
  · refine lv_aload_n hx hb dX1_addEnd_62 rfl (lv_at hl 3 rfl) ?_
    refine va_get (D := D) (ci := 1) (v := .ref a2) (C := RX1) (T := TX1) (N := 10) hx hb hts (fun _ h => List.mem_cons_of_mem _ (List.mem_append_left _ (List.mem_append_right _ h))) hown hK hP 0 rfl rfl 2 (by decide) (hts (.fieldLink RX1 13 "LitmusHall$Explorer" "ends" "[I") (by decide +kernel)) (fun _ h9 => h9) rfl dX1_addEnd_63 ?_
    refine lv_iload_n hx hb dX1_addEnd_66 rfl (lv_at hl 2 rfl) ?_
    refine lv_aload_n hx hb dX1_addEnd_67 rfl (lv_at hl 3 rfl) ?_
    refine va_get (D := D) (ci := 1) (v := .ref a2) (C := RX1) (T := TX1) (N := 10) hx hb hts (fun _ h => List.mem_cons_of_mem _ (List.mem_append_left _ (List.mem_append_right _ h))) hown hK hP 0 rfl rfl 2 (by decide) (hts (.fieldLink RX1 13 "LitmusHall$Explorer" "ends" "[I") (by decide +kernel)) (fun _ h9 => h9) rfl dX1_addEnd_68 ?_
    refine lv_iload_n hx hb dX1_addEnd_71 rfl (lv_at hl 2 rfl) ?_
    refine lv_iconst (v := 1) hx hb dX1_addEnd_72 (by decide) ?_
    refine lv_iadd hx hb dX1_addEnd_73 ?_
    refine gx_top (y := nI (lo + 1)) (nI_add lo 1) ?_
    refine lv_aload_n hx hb dX1_addEnd_74 rfl (lv_at hl 3 rfl) ?_
    refine va_get (D := D) (ci := 1) (v := .int (nI es)) (C := RX1) (T := TX1) (N := 10) hx hb hts (fun _ h => List.mem_cons_of_mem _ (List.mem_append_left _ (List.mem_append_right _ h))) hown hK hP 0 rfl rfl 1 (by decide) (hts (.fieldLink RX1 50 "LitmusHall$Explorer" "endSize" "I") (by decide +kernel)) (fun _ h9 => h9) rfl dX1_addEnd_75 ?_
    refine lv_iload_n hx hb dX1_addEnd_78 rfl (lv_at hl 2 rfl) ?_
    refine lv_isub hx hb dX1_addEnd_79 ?_
    refine gx_top (y := nI (es - lo)) (pk_sub (a := es) (b := lo) (by omega)) ?_
    refine gy_copyi (sp := lo) (dp := (lo + 1)) (n := (es - lo)) hx hb (hml.trans hl.1.symm) hown (hts (.methodLink RX1 83 arraycopyName) (by decide +kernel)) (hts (.native arraycopyName) (by decide +kernel)) (hts (.static arraycopyName) (by decide +kernel)) (hts (.initialized "java/lang/System") (by decide +kernel)) hK hP hD hS 1 1 rfl rfl (by omega) (by omega) (by omega) (by omega) (by omega) (Nat.le_of_ble_eq_true rfl) (Nat.le_of_ble_eq_true rfl) dX1_addEnd_80 (fun H locs hP hD hS => ?_)
    have hP : va_P D vwCl [(h0, .inr (1, [v0, .int (nI es), .ref a2, v3, v4, v5, .int (nI wd), .ref a7, v8, v9])), (a2, .inl (cI, 3000, .inl (va_cpy ef ef lo (lo + 1) (es - lo)))), (a7, .inl (cI, rl, .inl rf))] H := hP
    have hD : va_D A [(h0, .inr (1, [v0, .int (nI es), .ref a2, v3, v4, v5, .int (nI wd), .ref a7, v8, v9])), (a2, .inl (cI, 3000, .inl (va_cpy ef ef lo (lo + 1) (es - lo)))), (a7, .inl (cI, rl, .inl rf))] := hD
    refine lv_aload_n hx hb dX1_addEnd_83 rfl (lv_at hl 3 rfl) ?_
    refine va_get (D := D) (ci := 1) (v := .ref a2) (C := RX1) (T := TX1) (N := 10) hx hb hts (fun _ h => List.mem_cons_of_mem _ (List.mem_append_left _ (List.mem_append_right _ h))) hown hK hP 0 rfl rfl 2 (by decide) (hts (.fieldLink RX1 13 "LitmusHall$Explorer" "ends" "[I") (by decide +kernel)) (fun _ h9 => h9) rfl dX1_addEnd_84 ?_
    refine lv_iload_n hx hb dX1_addEnd_87 rfl (lv_at hl 2 rfl) ?_
    refine lv_iload_n hx hb dX1_addEnd_88 rfl (lv_at hl 4 rfl) ?_
    refine gy_ist (i := lo) hx hb hK hP hD hS 1 rfl (by omega) (by omega) dX1_addEnd_89 (fun H locs hP hD hS => ?_)
    have hP : va_P D vwCl [(h0, .inr (1, [v0, .int (nI es), .ref a2, v3, v4, v5, .int (nI wd), .ref a7, v8, v9])), (a2, .inl (cI, 3000, .inl (upd (va_cpy ef ef lo (lo + 1) (es - lo)) lo (nI n)))), (a7, .inl (cI, rl, .inl rf))] H := hP
    have hD : va_D A [(h0, .inr (1, [v0, .int (nI es), .ref a2, v3, v4, v5, .int (nI wd), .ref a7, v8, v9])), (a2, .inl (cI, 3000, .inl (upd (va_cpy ef ef lo (lo + 1) (es - lo)) lo (nI n)))), (a7, .inl (cI, rl, .inl rf))] := hD
    refine lv_aload_n hx hb dX1_addEnd_90 rfl (lv_at hl 3 rfl) ?_
    refine lv_dup hx hb dX1_addEnd_91 rfl ?_
    refine va_get (D := D) (ci := 1) (v := .int (nI es)) (C := RX1) (T := TX1) (N := 10) hx hb hts (fun _ h => List.mem_cons_of_mem _ (List.mem_append_left _ (List.mem_append_right _ h))) hown hK hP 0 rfl rfl 1 (by decide) (hts (.fieldLink RX1 50 "LitmusHall$Explorer" "endSize" "I") (by decide +kernel)) (fun _ h9 => h9) rfl dX1_addEnd_92 ?_
    refine lv_iconst (v := 1) hx hb dX1_addEnd_95 (by decide) ?_
    refine lv_iadd hx hb dX1_addEnd_96 ?_
    refine gx_top (y := nI (es + 1)) (nI_add es 1) ?_
    refine va_put (D := D) (ci := 1) (v := .int (nI (es + 1))) (ty := .int) (C := RX1) (T := TX1) (N := 10) hx hb hts (fun _ h => List.mem_cons_of_mem _ (List.mem_append_left _ (List.mem_append_right _ h))) tyX1 tyX1_ok nmX1 hown hK hP hD hS 0 rfl rfl 1 (by decide) (hts (.fieldLink RX1 50 "LitmusHall$Explorer" "endSize" "I") (by decide +kernel)) (fun _ h9 => h9) rfl (by decide +kernel) rfl rfl (Nat.le_of_ble_eq_true rfl) dX1_addEnd_97 (fun H locs hP hD hS => ?_)
    have hP : va_P D vwCl [(h0, .inr (1, [v0, .int (nI (es + 1)), .ref a2, v3, v4, v5, .int (nI wd), .ref a7, v8, v9])), (a2, .inl (cI, 3000, .inl (upd (va_cpy ef ef lo (lo + 1) (es - lo)) lo (nI n)))), (a7, .inl (cI, rl, .inl rf))] H := hP
    have hD : va_D A [(h0, .inr (1, [v0, .int (nI (es + 1)), .ref a2, v3, v4, v5, .int (nI wd), .ref a7, v8, v9])), (a2, .inl (cI, 3000, .inl (upd (va_cpy ef ef lo (lo + 1) (es - lo)) lo (nI n)))), (a7, .inl (cI, rl, .inl rf))] := hD
    exact gx_vret (w' := [(h0, .inr (1, [v0, .int (nI (es + 1)), .ref a2, v3, v4, v5, .int (nI wd), .ref a7, v8, v9])), (a2, .inl (cI, 3000, .inl (upd (va_cpy ef ef lo (lo + 1) (es - lo)) lo (nI n)))), (a7, .inl (cI, rl, .inl rf))]) hx hb hr hlk hK hP hD hS (Nat.le_of_ble_eq_true rfl) (Nat.le_of_ble_eq_true rfl) dX1_addEnd_100 ⟨(upd (va_cpy ef ef lo (lo + 1) (es - lo)) lo (nI n)), (gEn_put hen (by omega) hn), ⟨lo, ⟨by omega, hi10_3, fun i a b => hi10_4 i (by omega) b⟩, gIq_ef (fun i h => (hee i h).1) (by omega)⟩, rfl⟩
  · refine lv_iload_n hx hb dX1_addEnd_18 rfl (lv_at hl 2 rfl) ?_
    refine lv_iload_n hx hb dX1_addEnd_19 rfl (lv_at hl 1 rfl) ?_
    refine gy_ge (a := lo) (b := hi) (tgt := 62) hx hb (by omega) (by omega) dX1_addEnd_20 (by decide) (fun c_2 => ?_) (fun c_2 => ?_)
    · refine lv_aload_n hx hb dX1_addEnd_62 rfl (lv_at hl 3 rfl) ?_
      refine va_get (D := D) (ci := 1) (v := .ref a2) (C := RX1) (T := TX1) (N := 10) hx hb hts (fun _ h => List.mem_cons_of_mem _ (List.mem_append_left _ (List.mem_append_right _ h))) hown hK hP 0 rfl rfl 2 (by decide) (hts (.fieldLink RX1 13 "LitmusHall$Explorer" "ends" "[I") (by decide +kernel)) (fun _ h9 => h9) rfl dX1_addEnd_63 ?_
      refine lv_iload_n hx hb dX1_addEnd_66 rfl (lv_at hl 2 rfl) ?_
      refine lv_aload_n hx hb dX1_addEnd_67 rfl (lv_at hl 3 rfl) ?_
      refine va_get (D := D) (ci := 1) (v := .ref a2) (C := RX1) (T := TX1) (N := 10) hx hb hts (fun _ h => List.mem_cons_of_mem _ (List.mem_append_left _ (List.mem_append_right _ h))) hown hK hP 0 rfl rfl 2 (by decide) (hts (.fieldLink RX1 13 "LitmusHall$Explorer" "ends" "[I") (by decide +kernel)) (fun _ h9 => h9) rfl dX1_addEnd_68 ?_
      refine lv_iload_n hx hb dX1_addEnd_71 rfl (lv_at hl 2 rfl) ?_
      refine lv_iconst (v := 1) hx hb dX1_addEnd_72 (by decide) ?_
      refine lv_iadd hx hb dX1_addEnd_73 ?_
      refine gx_top (y := nI (lo + 1)) (nI_add lo 1) ?_
      refine lv_aload_n hx hb dX1_addEnd_74 rfl (lv_at hl 3 rfl) ?_
      refine va_get (D := D) (ci := 1) (v := .int (nI es)) (C := RX1) (T := TX1) (N := 10) hx hb hts (fun _ h => List.mem_cons_of_mem _ (List.mem_append_left _ (List.mem_append_right _ h))) hown hK hP 0 rfl rfl 1 (by decide) (hts (.fieldLink RX1 50 "LitmusHall$Explorer" "endSize" "I") (by decide +kernel)) (fun _ h9 => h9) rfl dX1_addEnd_75 ?_
      refine lv_iload_n hx hb dX1_addEnd_78 rfl (lv_at hl 2 rfl) ?_
      refine lv_isub hx hb dX1_addEnd_79 ?_
      refine gx_top (y := nI (es - lo)) (pk_sub (a := es) (b := lo) (by omega)) ?_
      refine gy_copyi (sp := lo) (dp := (lo + 1)) (n := (es - lo)) hx hb (hml.trans hl.1.symm) hown (hts (.methodLink RX1 83 arraycopyName) (by decide +kernel)) (hts (.native arraycopyName) (by decide +kernel)) (hts (.static arraycopyName) (by decide +kernel)) (hts (.initialized "java/lang/System") (by decide +kernel)) hK hP hD hS 1 1 rfl rfl (by omega) (by omega) (by omega) (by omega) (by omega) (Nat.le_of_ble_eq_true rfl) (Nat.le_of_ble_eq_true rfl) dX1_addEnd_80 (fun H locs hP hD hS => ?_)
      have hP : va_P D vwCl [(h0, .inr (1, [v0, .int (nI es), .ref a2, v3, v4, v5, .int (nI wd), .ref a7, v8, v9])), (a2, .inl (cI, 3000, .inl (va_cpy ef ef lo (lo + 1) (es - lo)))), (a7, .inl (cI, rl, .inl rf))] H := hP
      have hD : va_D A [(h0, .inr (1, [v0, .int (nI es), .ref a2, v3, v4, v5, .int (nI wd), .ref a7, v8, v9])), (a2, .inl (cI, 3000, .inl (va_cpy ef ef lo (lo + 1) (es - lo)))), (a7, .inl (cI, rl, .inl rf))] := hD
      refine lv_aload_n hx hb dX1_addEnd_83 rfl (lv_at hl 3 rfl) ?_
      refine va_get (D := D) (ci := 1) (v := .ref a2) (C := RX1) (T := TX1) (N := 10) hx hb hts (fun _ h => List.mem_cons_of_mem _ (List.mem_append_left _ (List.mem_append_right _ h))) hown hK hP 0 rfl rfl 2 (by decide) (hts (.fieldLink RX1 13 "LitmusHall$Explorer" "ends" "[I") (by decide +kernel)) (fun _ h9 => h9) rfl dX1_addEnd_84 ?_
      refine lv_iload_n hx hb dX1_addEnd_87 rfl (lv_at hl 2 rfl) ?_
      refine lv_iload_n hx hb dX1_addEnd_88 rfl (lv_at hl 4 rfl) ?_
      refine gy_ist (i := lo) hx hb hK hP hD hS 1 rfl (by omega) (by omega) dX1_addEnd_89 (fun H locs hP hD hS => ?_)
      have hP : va_P D vwCl [(h0, .inr (1, [v0, .int (nI es), .ref a2, v3, v4, v5, .int (nI wd), .ref a7, v8, v9])), (a2, .inl (cI, 3000, .inl (upd (va_cpy ef ef lo (lo + 1) (es - lo)) lo (nI n)))), (a7, .inl (cI, rl, .inl rf))] H := hP
      have hD : va_D A [(h0, .inr (1, [v0, .int (nI es), .ref a2, v3, v4, v5, .int (nI wd), .ref a7, v8, v9])), (a2, .inl (cI, 3000, .inl (upd (va_cpy ef ef lo (lo + 1) (es - lo)) lo (nI n)))), (a7, .inl (cI, rl, .inl rf))] := hD
      refine lv_aload_n hx hb dX1_addEnd_90 rfl (lv_at hl 3 rfl) ?_
      refine lv_dup hx hb dX1_addEnd_91 rfl ?_
      refine va_get (D := D) (ci := 1) (v := .int (nI es)) (C := RX1) (T := TX1) (N := 10) hx hb hts (fun _ h => List.mem_cons_of_mem _ (List.mem_append_left _ (List.mem_append_right _ h))) hown hK hP 0 rfl rfl 1 (by decide) (hts (.fieldLink RX1 50 "LitmusHall$Explorer" "endSize" "I") (by decide +kernel)) (fun _ h9 => h9) rfl dX1_addEnd_92 ?_
      refine lv_iconst (v := 1) hx hb dX1_addEnd_95 (by decide) ?_
      refine lv_iadd hx hb dX1_addEnd_96 ?_
      refine gx_top (y := nI (es + 1)) (nI_add es 1) ?_
      refine va_put (D := D) (ci := 1) (v := .int (nI (es + 1))) (ty := .int) (C := RX1) (T := TX1) (N := 10) hx hb hts (fun _ h => List.mem_cons_of_mem _ (List.mem_append_left _ (List.mem_append_right _ h))) tyX1 tyX1_ok nmX1 hown hK hP hD hS 0 rfl rfl 1 (by decide) (hts (.fieldLink RX1 50 "LitmusHall$Explorer" "endSize" "I") (by decide +kernel)) (fun _ h9 => h9) rfl (by decide +kernel) rfl rfl (Nat.le_of_ble_eq_true rfl) dX1_addEnd_97 (fun H locs hP hD hS => ?_)
      have hP : va_P D vwCl [(h0, .inr (1, [v0, .int (nI (es + 1)), .ref a2, v3, v4, v5, .int (nI wd), .ref a7, v8, v9])), (a2, .inl (cI, 3000, .inl (upd (va_cpy ef ef lo (lo + 1) (es - lo)) lo (nI n)))), (a7, .inl (cI, rl, .inl rf))] H := hP
      have hD : va_D A [(h0, .inr (1, [v0, .int (nI (es + 1)), .ref a2, v3, v4, v5, .int (nI wd), .ref a7, v8, v9])), (a2, .inl (cI, 3000, .inl (upd (va_cpy ef ef lo (lo + 1) (es - lo)) lo (nI n)))), (a7, .inl (cI, rl, .inl rf))] := hD
      exact gx_vret (w' := [(h0, .inr (1, [v0, .int (nI (es + 1)), .ref a2, v3, v4, v5, .int (nI wd), .ref a7, v8, v9])), (a2, .inl (cI, 3000, .inl (upd (va_cpy ef ef lo (lo + 1) (es - lo)) lo (nI n)))), (a7, .inl (cI, rl, .inl rf))]) hx hb hr hlk hK hP hD hS (Nat.le_of_ble_eq_true rfl) (Nat.le_of_ble_eq_true rfl) dX1_addEnd_100 ⟨(upd (va_cpy ef ef lo (lo + 1) (es - lo)) lo (nI n)), (gEn_put hen (by omega) hn), ⟨lo, ⟨by omega, hi10_3, fun i a b => hi10_4 i (by omega) b⟩, gIq_ef (fun i h => (hee i h).1) (by omega)⟩, rfl⟩
    · refine lv_iload_n hx hb dX1_addEnd_23 rfl (lv_at hl 2 rfl) ?_
      refine lv_iload_n hx hb dX1_addEnd_24 rfl (lv_at hl 1 rfl) ?_
      refine lv_iadd hx hb dX1_addEnd_25 ?_
      refine gx_top (y := nI (lo + hi)) (nI_add lo hi) ?_
      refine lv_iconst (v := 2) hx hb dX1_addEnd_26 (by decide) ?_
      refine lv_idiv hx hb dX1_addEnd_27 (by decide) ?_
      refine gx_top (y := nI ((lo + hi) / 2)) (gy_div (a := lo + hi) (b := 2) (by omega) (by decide)) ?_
      refine lv_istore (lv' := [(5, .int (nI ((lo + hi) / 2))), (4, .int (nI i)), (3, .int (nI hi)), (2, .int (nI lo)), (0, .ref h0), (1, .int (nI n))]) hx hb dX1_addEnd_28 hl (by decide) rfl (fun ls hl => ?_)
      refine lv_aload_n hx hb dX1_addEnd_30 rfl (lv_at hl 4 rfl) ?_
      refine lv_aload_n hx hb dX1_addEnd_31 rfl (lv_at hl 4 rfl) ?_
      refine va_get (D := D) (ci := 1) (v := .ref a2) (C := RX1) (T := TX1) (N := 10) hx hb hts (fun _ h => List.mem_cons_of_mem _ (List.mem_append_left _ (List.mem_append_right _ h))) hown hK hP 0 rfl rfl 2 (by decide) (hts (.fieldLink RX1 13 "LitmusHall$Explorer" "ends" "[I") (by decide +kernel)) (fun _ h9 => h9) rfl dX1_addEnd_32 ?_
      refine lv_iload hx hb dX1_addEnd_35 (lv_at hl 0 rfl) ?_
      obtain ⟨q, hq1, hq2⟩ := hen ((lo + hi) / 2) (by omega)
      have hrow1 := gy_row (n := q) (sz := sz) (wd := wd) hq1
      have hrow2 := gy_row (n := n) (sz := sz) (wd := wd) hn
      have hqe : q = el ((lo + hi) / 2) := (nI_eq (by omega) (by have := (hee ((lo + hi) / 2) (by omega)).2; omega)).mp (hq2.symm.trans (hee ((lo + hi) / 2) (by omega)).1)
      refine gy_ild (i := ((lo + hi) / 2)) hx hb hK hP 1 rfl (by omega) (by omega) dX1_addEnd_37 ?_
      refine gx_top (y := nI q) hq2 ?_
      refine lv_iload_n hx hb dX1_addEnd_38 rfl (lv_at hl 5 rfl) ?_
      refine gx_goi (wc := [(h0, .inr (1, [v0, .int (nI es), .ref a2, v3, v4, v5, .int (nI wd), .ref a7, v8, v9])), (a7, .inl (cI, rl, .inl rf))]) (wr := [(a2, .inl (cI, 3000, .inl ef))]) (va_runV (As := [.int (nI q), .int (nI n)]) (rest := []) ⟨hx, hb, hml, hown, hts⟩ (x_isBefore l D cI cB cZ h0 a7 (v0) (.int (nI es)) (.ref a2) (v3) (v4) (v5) (v8) (v9) wd rl rf q n (by omega) (by omega) (by omega) (by omega) (by omega) _) (cwV 2 hts gP_x_addEnd__x_isBefore rfl rfl rfl (by decide +kernel) ⟨Nat.le_of_ble_eq_true rfl, Nat.le_of_ble_eq_true rfl⟩) (gx_preV (ci := 1) (q0 := 0) hK gN.nil hP hD [0, 2] rfl rfl rfl rfl) rfl rfl hl.1 rfl (lv_room (Nat.le_of_ble_eq_true rfl)) dX1_addEnd_39 ⟨Nat.le_of_ble_eq_true rfl, Nat.le_of_ble_eq_true rfl⟩) hP hD hS hA [0, 2] [1] rfl rfl rfl (by decide) (fun r1 w1 H locs hp hP hD hS => ?_)
      obtain ⟨e_3, hq_4, hx39_0, h9, rfl⟩ := hp
      have h9 := h9.symm
      subst h9
      have hq_4 : e_3 = 0 ∨ e_3 = 1 := hq_4
      have hx39_0 : (e_3 = 1 ∧ gOl (gRo rf wd q) (gRo rf wd n)) ∨ (e_3 = 0 ∧ ¬ gOl (gRo rf wd q) (gRo rf wd n)) := hx39_0
      refine lv_if_eq (tgt := 53) hx hb dX1_addEnd_42 (by decide) (fun c_5 => ?_) (fun c_5 => ?_)
      · refine lv_iload hx hb dX1_addEnd_53 (lv_at hl 0 rfl) ?_
        refine lv_istore_n (lv' := [(3, .int (nI ((lo + hi) / 2))), (5, .int (nI ((lo + hi) / 2))), (4, .int (nI i)), (2, .int (nI lo)), (0, .ref h0), (1, .int (nI n))]) hx hb dX1_addEnd_55 rfl hl (by decide) rfl (fun ls hl => ?_)
        refine lv_iinc (v := nI (i + 1)) (lv' := [(4, .int (nI (i + 1))), (3, .int (nI ((lo + hi) / 2))), (5, .int (nI ((lo + hi) / 2))), (2, .int (nI lo)), (0, .ref h0), (1, .int (nI n))]) hx hb dX1_addEnd_56 hl (k := 2) rfl (nI_add i 1) (by decide) rfl (fun ls hl => ?_)
        refine lv_goto (tgt := 10) hx hb dX1_addEnd_59 (by decide) ?_
        have hP := hP.sub (ws' := [(h0, .inr (1, [v0, .int (nI es), .ref a2, v3, v4, v5, .int (nI wd), .ref a7, v8, v9])), (a2, .inl (cI, 3000, .inl ef)), (a7, .inl (cI, rl, .inl rf))]) [1, 0, 2] rfl
        have hD := hD.sub (ws' := [(h0, .inr (1, [v0, .int (nI es), .ref a2, v3, v4, v5, .int (nI wd), .ref a7, v8, v9])), (a2, .inl (cI, 3000, .inl ef)), (a7, .inl (cI, rl, .inl rf))]) [1, 0, 2] (by decide) rfl
        exact ih10 ((i + 1), lo, ((lo + hi) / 2)) H locs ls ⟨(by show (i + 1) ≤ 3000; omega), (by show lo ≤ ((lo + hi) / 2); omega), (by show ((lo + hi) / 2) ≤ es; omega), (by first | exact gB_lo hso (by omega) (by rw [← hqe]; exact (hx39_0.resolve_right (fun q => c_5 q.1)).2) | exact hi10_3), (by first | exact gB_hi hso (by rw [← hqe]; exact (hx39_0.resolve_left (fun q => absurd (q.1.symm.trans c_5) (by decide))).2) | exact hi10_4), (by show (i + 1) + (((lo + hi) / 2) - lo) ≤ es; omega), hP, hD, hS, lv_sub hl [0, 1, 3, 4, 5] rfl⟩ (by show 3000 - (i + 1) < 3000 - i; omega)
      · refine lv_iload hx hb dX1_addEnd_45 (lv_at hl 0 rfl) ?_
        refine lv_iconst (v := 1) hx hb dX1_addEnd_47 (by decide) ?_
        refine lv_iadd hx hb dX1_addEnd_48 ?_
        refine gx_top (y := nI (((lo + hi) / 2) + 1)) (nI_add ((lo + hi) / 2) 1) ?_
        refine lv_istore_n (lv' := [(2, .int (nI (((lo + hi) / 2) + 1))), (5, .int (nI ((lo + hi) / 2))), (4, .int (nI i)), (3, .int (nI hi)), (0, .ref h0), (1, .int (nI n))]) hx hb dX1_addEnd_49 rfl hl (by decide) rfl (fun ls hl => ?_)
        refine lv_goto (tgt := 56) hx hb dX1_addEnd_50 (by decide) ?_
        refine lv_iinc (v := nI (i + 1)) (lv' := [(4, .int (nI (i + 1))), (2, .int (nI (((lo + hi) / 2) + 1))), (5, .int (nI ((lo + hi) / 2))), (3, .int (nI hi)), (0, .ref h0), (1, .int (nI n))]) hx hb dX1_addEnd_56 hl (k := 2) rfl (nI_add i 1) (by decide) rfl (fun ls hl => ?_)
        refine lv_goto (tgt := 10) hx hb dX1_addEnd_59 (by decide) ?_
        have hP := hP.sub (ws' := [(h0, .inr (1, [v0, .int (nI es), .ref a2, v3, v4, v5, .int (nI wd), .ref a7, v8, v9])), (a2, .inl (cI, 3000, .inl ef)), (a7, .inl (cI, rl, .inl rf))]) [1, 0, 2] rfl
        have hD := hD.sub (ws' := [(h0, .inr (1, [v0, .int (nI es), .ref a2, v3, v4, v5, .int (nI wd), .ref a7, v8, v9])), (a2, .inl (cI, 3000, .inl ef)), (a7, .inl (cI, rl, .inl rf))]) [1, 0, 2] (by decide) rfl
        exact ih10 ((i + 1), (((lo + hi) / 2) + 1), hi) H locs ls ⟨(by show (i + 1) ≤ 3000; omega), (by show (((lo + hi) / 2) + 1) ≤ hi; omega), (by show hi ≤ es; omega), (by first | exact gB_lo hso (by omega) (by rw [← hqe]; exact (hx39_0.resolve_right (fun q => c_5 q.1)).2) | exact hi10_3), (by first | exact gB_hi hso (by rw [← hqe]; exact (hx39_0.resolve_left (fun q => absurd (q.1.symm.trans c_5) (by decide))).2) | exact hi10_4), (by show (i + 1) + (hi - (((lo + hi) / 2) + 1)) ≤ es; omega), hP, hD, hS, lv_sub hl [0, 3, 1, 4, 5] rfl⟩ (by show 3000 - (i + 1) < 3000 - i; omega)
