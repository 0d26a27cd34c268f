
def wsP_x_xInt : List Cond := .code yX1_intOf cX1_intOf 3 (some .int) :: (([.fieldLink RX1 32 "LitmusHall$Explorer" "rows" "[I", .fieldLink RX1 28 "LitmusHall$Explorer" "width" "I"] ++ wsX10) ++ [])
theorem gW_x_xInt : wsP_x_xInt.all goodWord = true := by unfold wsP_x_xInt; exact gw_mk (by decide +kernel) rfl
set_option maxHeartbeats 4000000 in
set_option maxRecDepth 100000 in
theorem x_xInt (l : Launch) (D : va_G) (cI cB cZ : ClassId) (h0 : Nat) (a7 : Nat) (v0 : Value) (v1 : Value) (v2 : Value) (v3 : Value) (v4 : Value) (v5 : Value) (v8 : Value) (v9 : Value) (wd : Nat) (rl : Nat) (rf : Nat → Int32) (n : Nat) (i : Nat) (hw16 : 16 ≤ wd) (hw34 : wd ≤ 34) (hrl : rl ≤ 102000) (hn : n * wd + wd ≤ rl) (hi : i < 16) : gMi l yX1_intOf wsP_x_xInt ({ frames := 0, cells := 0, slots := 0, locals := 0 }) D cI cB cZ [] [.ref h0, .int (nI n), .int (nI i)] [(h0, .inr (1, [v0, v1, v2, v3, v4, v5, .int (nI wd), .ref a7, v8, v9])), (a7, .inl (cI, rl, .inl rf))] (fun r9 w9 => ∃ z : Int32, (z = rf ((n * wd) + i)) ∧ r9 = z ∧ w9 = [(h0, .inr (1, [v0, v1, v2, v3, v4, v5, .int (nI wd), .ref a7, v8, v9])), (a7, .inl (cI, rl, .inl rf))]) := by
  refine gMi.of (cc := cX1_intOf) (maxL := 3) (ret := (some .int)) (by decide) rfl (Nat.le_of_ble_eq_true rfl) (fun p e s m below meth c A ls hx hb hr hlk hml hts hown hin hA hP hK hD hS hN hl => ?_)
  have hown : s.vm.findClass RX1 = some m.cls := hown
  have hl : lv_has ls 3 [(0, .ref h0), (1, .int (nI n)), (2, .int (nI i))] := hl
  refine lv_aload_n hx hb dX1_intOf_0 rfl (lv_at hl 0 rfl) ?_
  refine va_get (D := D) (ci := 1) (v := .ref a7) (C := RX1) (T := TX1) (N := 10) hx hb hts (fun _ h => List.mem_cons_of_mem _ (List.mem_append_left _ (List.mem_append_right _ h))) hown hK hP 0 rfl rfl 7 (by decide) (hts (.fieldLink RX1 32 "LitmusHall$Explorer" "rows" "[I") (by decide +kernel)) (fun _ h9 => h9) rfl dX1_intOf_1 ?_
  refine lv_iload_n hx hb dX1_intOf_4 rfl (lv_at hl 1 rfl) ?_
  refine lv_aload_n hx hb dX1_intOf_5 rfl (lv_at hl 0 rfl) ?_
  refine va_get (D := D) (ci := 1) (v := .int (nI wd)) (C := RX1) (T := TX1) (N := 10) hx hb hts (fun _ h => List.mem_cons_of_mem _ (List.mem_append_left _ (List.mem_append_right _ h))) hown hK hP 0 rfl rfl 6 (by decide) (hts (.fieldLink RX1 28 "LitmusHall$Explorer" "width" "I") (by decide +kernel)) (fun _ h9 => h9) rfl dX1_intOf_6 ?_
  refine lv_imul hx hb dX1_intOf_9 ?_
  refine gx_top (y := nI (n * wd)) (pk_mul n wd) ?_
  refine lv_iload_n hx hb dX1_intOf_10 rfl (lv_at hl 2 rfl) ?_
  refine lv_iadd hx hb dX1_intOf_11 ?_
  refine gx_top (y := nI ((n * wd) + i)) (nI_add (n * wd) i) ?_
  refine gy_ild (i := ((n * wd) + i)) hx hb hK hP 1 rfl (by omega) (by omega) dX1_intOf_12 ?_
  exact gx_iret (w' := [(h0, .inr (1, [v0, v1, v2, v3, v4, v5, .int (nI wd), .ref a7, v8, v9])), (a7, .inl (cI, rl, .inl rf))]) hx hb hr hlk hK hP hD hS (Nat.le_of_ble_eq_true rfl) (Nat.le_of_ble_eq_true rfl) dX1_intOf_13 ⟨(rf ((n * wd) + i)), rfl, rfl, rfl⟩
def wsP_x_fill4 : List Cond := .code yJ7_fill_fda19 cJ7_fill_fda19 5 none :: (([.methodLink RJ7 13 yJ7_rangeCheck_23922, .static yJ7_rangeCheck_23922, .initialized yJ7_rangeCheck_23922.cls]) ++ (wsP_c_rangeCheck ++ []))
theorem gW_x_fill4 : wsP_x_fill4.all goodWord = true := by unfold wsP_x_fill4; exact gw_mk (by decide +kernel) (gw_app gW_c_rangeCheck rfl)
set_option maxRecDepth 20000 in
theorem gP_x_fill4__c_rangeCheck : GoodIn wsP_x_fill4 (va_wsS RJ7 13 yJ7_rangeCheck_23922 wsP_c_rangeCheck) := gw_in (pre := [.methodLink RJ7 13 yJ7_rangeCheck_23922, .static yJ7_rangeCheck_23922, .initialized yJ7_rangeCheck_23922.cls]) (by decide +kernel) (fun _ h => List.mem_cons_of_mem _ (List.mem_append_right _ (List.mem_append_left _ h))) gW_c_rangeCheck
set_option maxHeartbeats 4000000 in
set_option maxRecDepth 100000 in
theorem x_fill4 (l : Launch) (D : va_G) (cI cB cZ : ClassId) (a : Nat) (n : Nat) (f : Nat → Int32) (b : Nat) (t : Nat) (x : Int32) (h1 : b ≤ t) (h2 : t ≤ n) (h3 : n ≤ 102000) : gMv l yJ7_fill_fda19 wsP_x_fill4 ({ frames := 1, cells := 0, slots := 0, locals := 22 }) D cI cB cZ [] [.ref a, .int (nI b), .int (nI t), .int x] [(a, .inl (cI, n, .inl f))] (fun w9 => ∃ g : Nat → Int32, (∀ j, b ≤ j → j < t → g j = x) ∧ (∀ j, (j < b ∨ t ≤ j) → g j = f j) ∧ w9 = [(a, .inl (cI, n, .inl g))]) := by
  refine gMv.of (cc := cJ7_fill_fda19) (maxL := 5) (ret := none) (by decide) rfl (Nat.le_of_ble_eq_true rfl) (fun p e s m below meth c A ls hx hb hr hlk hml hts hown hin hA hP hK hD hS hN hl => ?_)
  have hown : s.vm.findClass RJ7 = some m.cls := hown
  have hl : lv_has ls 5 [(0, .ref a), (1, .int (nI b)), (2, .int (nI t)), (3, .int x)] := hl
  refine lv_aload_n hx hb dJ7_fill_fda19_0 rfl (lv_at hl 0 rfl) ?_
  refine va_alen (v := nI n) hx hb hK hP 0 0 rfl rfl rfl dJ7_fill_fda19_1 ?_
  refine lv_iload_n hx hb dJ7_fill_fda19_2 rfl (lv_at hl 1 rfl) ?_
  refine lv_iload_n hx hb dJ7_fill_fda19_3 rfl (lv_at hl 2 rfl) ?_
  refine gx_gov (wc := []) (wr := [(a, .inl (cI, n, .inl f))]) (va_runS (As := [.int (nI n), .int (nI b), .int (nI t)]) (rest := []) ⟨hx, hb, hml, hown, hts⟩ (c_rangeCheck l D cI cB cZ n b t (by omega) (by omega) (by omega) _) (va_cwS 3 hts gP_x_fill4__c_rangeCheck rfl rfl rfl (by decide +kernel) ⟨Nat.le_of_ble_eq_true rfl, Nat.le_of_ble_eq_true rfl⟩) (gx_preS hK gN.nil hP hD [] rfl rfl) rfl rfl hl.1 rfl (lv_room (Nat.le_of_ble_eq_true rfl)) dJ7_fill_fda19_4 ⟨Nat.le_of_ble_eq_true rfl, Nat.le_of_ble_eq_true rfl⟩) hP hD hS hA [] [0] rfl rfl rfl (by decide) (fun w1 H locs hp hP hD hS => ?_)
  obtain ⟨rfl⟩ := hp
  refine lv_iload_n hx hb dJ7_fill_fda19_7 rfl (lv_at hl 1 rfl) ?_
  refine lv_istore (lv' := [(4, .int (nI b)), (0, .ref a), (1, .int (nI b)), (2, .int (nI t)), (3, .int x)]) hx hb dJ7_fill_fda19_8 hl (by decide) rfl (fun ls hl => ?_)
  refine gy_loop0 (I := fun (x9 : Nat × (Nat → Int32)) H locs ls => (b ≤ x9.1) ∧ (x9.1 ≤ t) ∧ (∀ j, b ≤ j → j < x9.1 → x9.2 j = x) ∧ (∀ j, (j < b ∨ t ≤ j) → x9.2 j = f j) ∧ va_P D vwCl [(a, .inl (cI, n, .inl x9.2))] H ∧ va_D A [(a, .inl (cI, n, .inl x9.2))] ∧ va_S A s.heap H locs ∧ lv_has ls 5 [(4, .int (nI x9.1)), (0, .ref a), (1, .int (nI b)), (2, .int (nI t)), (3, .int x)]) (μ := fun (x9 : Nat × (Nat → Int32)) => t - x9.1) (fun x9 H locs ls hI ih10 => ?_) (b, f) ⟨(by show b ≤ b; omega), (by show b ≤ t; omega), (by show ∀ j, b ≤ j → j < b → f j = x; exact (fun j a9 b9 => absurd a9 (by omega))), (by show ∀ j, (j < b ∨ t ≤ j) → f j = f j; exact (fun _ _ => rfl)), hP, hD, hS, lv_sub hl [0, 1, 2, 3, 4] rfl⟩
  obtain ⟨i, g⟩ := x9
  obtain ⟨hi10_0, hi10_1, hi10_2, hi10_3, hP, hD, hS, hl⟩ := hI
  have hi10_0 : b ≤ i := hi10_0
  have hi10_1 : i ≤ t := hi10_1
  have hi10_2 : ∀ j, b ≤ j → j < i → g j = x := hi10_2
  have hi10_3 : ∀ j, (j < b ∨ t ≤ j) → g j = f j := hi10_3
  have hP : va_P D vwCl [(a, .inl (cI, n, .inl g))] H := hP
  have hD : va_D A [(a, .inl (cI, n, .inl g))] := hD
  have hS : va_S A s.heap H locs := hS
  have hl : lv_has ls 5 [(4, .int (nI i)), (0, .ref a), (1, .int (nI b)), (2, .int (nI t)), (3, .int x)] := hl
  refine lv_iload hx hb dJ7_fill_fda19_10 (lv_at hl 0 rfl) ?_
  refine lv_iload_n hx hb dJ7_fill_fda19_12 rfl (lv_at hl 3 rfl) ?_
  refine gy_ge (a := i) (b := t) (tgt := 27) hx hb (by omega) (by omega) dJ7_fill_fda19_13 (by decide) (fun c_1 => ?_) (fun c_1 => ?_)
  · exact gx_vret (w' := [(a, .inl (cI, n, .inl g))]) hx hb hr hlk hK hP hD hS (Nat.le_of_ble_eq_true rfl) (Nat.le_of_ble_eq_true rfl) dJ7_fill_fda19_27 ⟨g, (fun j a9 b9 => hi10_2 j a9 (by omega)), hi10_3, rfl⟩
  · refine lv_aload_n hx hb dJ7_fill_fda19_16 rfl (lv_at hl 1 rfl) ?_
    refine lv_iload hx hb dJ7_fill_fda19_17 (lv_at hl 0 rfl) ?_
    refine lv_iload_n hx hb dJ7_fill_fda19_19 rfl (lv_at hl 4 rfl) ?_
    refine gy_ist (i := i) hx hb hK hP hD hS 0 rfl (by omega) (by omega) dJ7_fill_fda19_20 (fun H locs hP hD hS => ?_)
    have hP : va_P D vwCl [(a, .inl (cI, n, .inl (upd g i x)))] H := hP
    have hD : va_D A [(a, .inl (cI, n, .inl (upd g i x)))] := hD
    refine lv_iinc (v := nI (i + 1)) (lv' := [(4, .int (nI (i + 1))), (0, .ref a), (1, .int (nI b)), (2, .int (nI t)), (3, .int x)]) hx hb dJ7_fill_fda19_21 hl (k := 0) rfl (nI_add i 1) (by decide) rfl (fun ls hl => ?_)
    refine lv_goto (tgt := 10) hx hb dJ7_fill_fda19_24 (by decide) ?_
    exact ih10 ((i + 1), (upd g i x)) H locs ls ⟨(by show b ≤ (i + 1); omega), (by show (i + 1) ≤ t; omega), (by show ∀ j, b ≤ j → j < (i + 1) → (upd g i x) j = x; exact (fun j a9 b9 => by by_cases e9 : j = i; (subst e9; exact pk_us); rw [pk_un e9]; exact hi10_2 j a9 (by omega))), (by show ∀ j, (j < b ∨ t ≤ j) → (upd g i x) j = f j; exact (fun j h9 => by rw [pk_un (by omega)]; exact hi10_3 j h9)), hP, hD, hS, lv_sub hl [0, 1, 2, 3, 4] rfl⟩ (by show t - (i + 1) < t - i; omega)
def wsP_x_pathTo : List Cond := .code yX1_pathTo cX1_pathTo 6 (some .int) :: (([.fieldLink RX1 17 "LitmusHall$Explorer" "path" "[I", .fieldLink RX1 38 "LitmusHall$Explorer" "came" "[I"] ++ wsX10) ++ [])
theorem gW_x_pathTo : wsP_x_pathTo.all goodWord = true := by unfold wsP_x_pathTo; exact gw_mk (by decide +kernel) rfl
set_option maxHeartbeats 4000000 in
set_option maxRecDepth 100000 in
theorem x_pathTo (l : Launch) (D : va_G) (cI cB cZ : ClassId) (h0 : Nat) (a3 : Nat) (a9 : Nat) (v0 : Value) (v1 : Value) (v2 : Value) (v4 : Value) (v5 : Value) (v6 : Value) (v7 : Value) (v8 : Value) (sz : Nat) (pf : Nat → Int32) (cm : Nat → Int32) (n : Nat) (lq : Nat) (ps : Nat → Nat) (hsz : sz ≤ 3000) (hn : n < sz) (hcm : gCm cm sz) (hp : gPth cm ps lq n) (hl9 : lq ≤ 38) : gMi l yX1_pathTo wsP_x_pathTo ({ frames := 0, cells := 0, slots := 0, locals := 0 }) D cI cB cZ [] [.ref h0, .int (nI n)] [(h0, .inr (1, [v0, v1, v2, .ref a3, v4, v5, v6, v7, v8, .ref a9])), (a3, .inl (cI, 38, .inl pf)), (a9, .inl (cI, 3000, .inl cm))] (fun r9 w9 => ∃ t : Nat, ∃ pf9 : Nat → Int32, (t ≤ 38) ∧ (t = lq) ∧ (∀ j, j < lq → pf9 j = nI (ps j)) ∧ r9 = (nI t) ∧ w9 = [(h0, .inr (1, [v0, v1, v2, .ref a3, v4, v5, v6, v7, v8, .ref a9])), (a3, .inl (cI, 38, .inl pf9)), (a9, .inl (cI, 3000, .inl cm))]) := by
  refine gMi.of (cc := cX1_pathTo) (maxL := 6) (ret := (some .int)) (by decide) rfl (Nat.le_of_ble_eq_true rfl) (fun p e s m below meth c A ls hx hb hr hlk hml hts hown hin hA hP hK hD hS hN hl => ?_)
  have hown : s.vm.findClass RX1 = some m.cls := hown
  have hl : lv_has ls 6 [(0, .ref h0), (1, .int (nI n))] := hl
  refine lv_iconst (v := 0) hx hb dX1_pathTo_0 (by decide) ?_
  refine lv_istore_n (lv' := [(2, .int 0), (0, .ref h0), (1, .int (nI n))]) hx hb dX1_pathTo_1 rfl hl (by decide) rfl (fun ls hl => ?_)
  refine lv_iload_n hx hb dX1_pathTo_2 rfl (lv_at hl 2 rfl) ?_
  refine lv_istore_n (lv' := [(3, .int (nI n)), (2, .int 0), (0, .ref h0), (1, .int (nI n))]) hx hb dX1_pathTo_3 rfl hl (by decide) rfl (fun ls hl => ?_)
  refine gy_loop0 (I := fun (x9 : Nat × Nat × (Nat → Int32)) H locs ls => (x9.1 ≤ 38) ∧ (x9.2.1 < sz) ∧ (x9.1 ≤ lq) ∧ (gPth cm ps (lq - x9.1) x9.2.1) ∧ (∀ j, j < x9.1 → x9.2.2 j = nI (ps (lq - 1 - j))) ∧ va_P D vwCl [(h0, .inr (1, [v0, v1, v2, .ref a3, v4, v5, v6, v7, v8, .ref a9])), (a3, .inl (cI, 38, .inl x9.2.2)), (a9, .inl (cI, 3000, .inl cm))] H ∧ va_D A [(h0, .inr (1, [v0, v1, v2, .ref a3, v4, v5, v6, v7, v8, .ref a9])), (a3, .inl (cI, 38, .inl x9.2.2)), (a9, .inl (cI, 3000, .inl cm))] ∧ va_S A s.heap H locs ∧ lv_has ls 6 [(3, .int (nI x9.2.1)), (2, .int (nI x9.1)), (0, .ref h0), (1, .int (nI n))]) (μ := fun (x9 : Nat × Nat × (Nat → Int32)) => 38 - x9.1) (fun x9 H locs ls hI ih4 => ?_) (0, n, pf) ⟨(by show 0 ≤ 38; exact Nat.le_of_ble_eq_true rfl), (by show n < sz; omega), (by show 0 ≤ lq; exact Nat.zero_le _), hp, (by show ∀ j, j < 0 → pf j = nI (ps (lq - 1 - j)); exact (fun j h => absurd h (Nat.not_lt_zero j))), hP, hD, hS, lv_sub hl [0, 1, 2, 3] rfl⟩
  obtain ⟨t, h, pf⟩ := x9
  obtain ⟨hi4_0, hi4_1, hi4_2, hi4_3, hi4_4, hP, hD, hS, hl⟩ := hI
  have hi4_0 : t ≤ 38 := hi4_0
  have hi4_1 : h < sz := hi4_1
  have hi4_2 : t ≤ lq := hi4_2
  have hi4_3 : gPth cm ps (lq - t) h := hi4_3
  have hi4_4 : ∀ j, j < t → pf j = nI (ps (lq - 1 - j)) := hi4_4
  have hP : va_P D vwCl [(h0, .inr (1, [v0, v1, v2, .ref a3, v4, v5, v6, v7, v8, .ref a9])), (a3, .inl (cI, 38, .inl pf)), (a9, .inl (cI, 3000, .inl cm))] H := hP
  have hD : va_D A [(h0, .inr (1, [v0, v1, v2, .ref a3, v4, v5, v6, v7, v8, .ref a9])), (a3, .inl (cI, 38, .inl pf)), (a9, .inl (cI, 3000, .inl cm))] := hD
  have hS : va_S A s.heap H locs := hS
  have hl : lv_has ls 6 [(3, .int (nI h)), (2, .int (nI t)), (0, .ref h0), (1, .int (nI n))] := hl
  refine lv_iload_n hx hb dX1_pathTo_4 rfl (lv_at hl 1 rfl) ?_
  refine lv_bipush (v := 38) hx hb dX1_pathTo_5 (by decide) ?_
  refine gy_ge (a := t) (b := 38) (tgt := 50) hx hb (by omega) (by omega) dX1_pathTo_7 (by decide) (fun c_1 => ?_) (fun c_1 => ?_)
  · have htl : t = lq := by first | omega | (have z9 := gPth_z hi4_3 c_1 (by omega); omega)
    refine lv_iconst (v := 0) hx hb dX1_pathTo_50 (by decide) ?_
    refine lv_istore (lv' := [(4, .int 0), (3, .int (nI h)), (2, .int (nI t)), (0, .ref h0), (1, .int (nI n))]) hx hb dX1_pathTo_51 hl (by decide) rfl (fun ls hl => ?_)
    refine gy_loop0 (I := fun (x9 : Nat × (Nat → Int32)) H locs ls => (x9.1 ≤ t / 2) ∧ (gRv ps t x9.1 x9.2) ∧ va_P D vwCl [(h0, .inr (1, [v0, v1, v2, .ref a3, v4, v5, v6, v7, v8, .ref a9])), (a3, .inl (cI, 38, .inl x9.2)), (a9, .inl (cI, 3000, .inl cm))] H ∧ va_D A [(h0, .inr (1, [v0, v1, v2, .ref a3, v4, v5, v6, v7, v8, .ref a9])), (a3, .inl (cI, 38, .inl x9.2)), (a9, .inl (cI, 3000, .inl cm))] ∧ va_S A s.heap H locs ∧ lv_has ls 6 [(4, .int (nI x9.1)), (3, .int (nI h)), (2, .int (nI t)), (0, .ref h0), (1, .int (nI n))]) (μ := fun (x9 : Nat × (Nat → Int32)) => t - x9.1) (fun x9 H locs ls hI ih53 => ?_) (0, pf) ⟨(by show 0 ≤ t / 2; exact Nat.zero_le _), (gRv_0 (fun j hj => by rw [htl]; exact hi4_4 j hj)), hP, hD, hS, lv_sub hl [0, 1, 2, 3, 4] rfl⟩
    obtain ⟨i, pf⟩ := x9
    obtain ⟨hi53_0, hi53_1, hP, hD, hS, hl⟩ := hI
    have hi53_0 : i ≤ t / 2 := hi53_0
    have hi53_1 : gRv ps t i pf := hi53_1
    have hP : va_P D vwCl [(h0, .inr (1, [v0, v1, v2, .ref a3, v4, v5, v6, v7, v8, .ref a9])), (a3, .inl (cI, 38, .inl pf)), (a9, .inl (cI, 3000, .inl cm))] H := hP
    have hD : va_D A [(h0, .inr (1, [v0, v1, v2, .ref a3, v4, v5, v6, v7, v8, .ref a9])), (a3, .inl (cI, 38, .inl pf)), (a9, .inl (cI, 3000, .inl cm))] := hD
    have hS : va_S A s.heap H locs := hS
    have hl : lv_has ls 6 [(4, .int (nI i)), (3, .int (nI h)), (2, .int (nI t)), (0, .ref h0), (1, .int (nI n))] := hl
    refine lv_iload hx hb dX1_pathTo_53 (lv_at hl 0 rfl) ?_
    refine lv_iload_n hx hb dX1_pathTo_55 rfl (lv_at hl 2 rfl) ?_
    refine lv_iconst (v := 2) hx hb dX1_pathTo_56 (by decide) ?_
    refine lv_idiv hx hb dX1_pathTo_57 (by decide) ?_
    refine gx_top (y := nI ((t) / 2)) (gy_div (a := t) (b := 2) (by omega) (by decide)) ?_
    refine gy_ge (a := i) (b := ((t) / 2)) (tgt := 107) hx hb (by omega) (by omega) dX1_pathTo_58 (by decide) (fun c_2 => ?_) (fun c_2 => ?_)
    · refine lv_iload_n hx hb dX1_pathTo_107 rfl (lv_at hl 2 rfl) ?_
      exact gx_iret (w' := [(h0, .inr (1, [v0, v1, v2, .ref a3, v4, v5, v6, v7, v8, .ref a9])), (a3, .inl (cI, 38, .inl pf)), (a9, .inl (cI, 3000, .inl cm))]) hx hb hr hlk hK hP hD hS (Nat.le_of_ble_eq_true rfl) (Nat.le_of_ble_eq_true rfl) dX1_pathTo_108 ⟨t, pf, (by omega), htl, (by rw [← htl]; exact gRv_e hi53_1 (by omega)), rfl, rfl⟩
    · refine lv_aload_n hx hb dX1_pathTo_61 rfl (lv_at hl 3 rfl) ?_
      refine va_get (D := D) (ci := 1) (v := .ref a3) (C := RX1) (T := TX1) (N := 10) hx hb hts (fun _ h => List.mem_cons_of_mem _ (List.mem_append_left _ (List.mem_append_right _ h))) hown hK hP 0 rfl rfl 3 (by decide) (hts (.fieldLink RX1 17 "LitmusHall$Explorer" "path" "[I") (by decide +kernel)) (fun _ h9 => h9) rfl dX1_pathTo_62 ?_
      refine lv_iload hx hb dX1_pathTo_65 (lv_at hl 0 rfl) ?_
      refine gy_ild (i := i) hx hb hK hP 1 rfl (by omega) (by omega) dX1_pathTo_67 ?_
      refine lv_istore (lv' := [(5, .int (pf i)), (4, .int (nI i)), (3, .int (nI h)), (2, .int (nI t)), (0, .ref h0), (1, .int (nI n))]) hx hb dX1_pathTo_68 hl (by decide) rfl (fun ls hl => ?_)
      refine lv_aload_n hx hb dX1_pathTo_70 rfl (lv_at hl 4 rfl) ?_
      refine va_get (D := D) (ci := 1) (v := .ref a3) (C := RX1) (T := TX1) (N := 10) hx hb hts (fun _ h => List.mem_cons_of_mem _ (List.mem_append_left _ (List.mem_append_right _ h))) hown hK hP 0 rfl rfl 3 (by decide) (hts (.fieldLink RX1 17 "LitmusHall$Explorer" "path" "[I") (by decide +kernel)) (fun _ h9 => h9) rfl dX1_pathTo_71 ?_
      refine lv_iload hx hb dX1_pathTo_74 (lv_at hl 1 rfl) ?_
      refine lv_aload_n hx hb dX1_pathTo_76 rfl (lv_at hl 4 rfl) ?_
      refine va_get (D := D) (ci := 1) (v := .ref a3) (C := RX1) (T := TX1) (N := 10) hx hb hts (fun _ h => List.mem_cons_of_mem _ (List.mem_append_left _ (List.mem_append_right _ h))) hown hK hP 0 rfl rfl 3 (by decide) (hts (.fieldLink RX1 17 "LitmusHall$Explorer" "path" "[I") (by decide +kernel)) (fun _ h9 => h9) rfl dX1_pathTo_77 ?_
      refine lv_iload_n hx hb dX1_pathTo_80 rfl (lv_at hl 3 rfl) ?_
      refine lv_iconst (v := 1) hx hb dX1_pathTo_81 (by decide) ?_
      refine lv_isub hx hb dX1_pathTo_82 ?_
      refine gx_top (y := nI (t - 1)) (pk_sub (a := t) (b := 1) (by omega)) ?_
      refine lv_iload hx hb dX1_pathTo_83 (lv_at hl 1 rfl) ?_
      refine lv_isub hx hb dX1_pathTo_85 ?_
      refine gx_top (y := nI ((t - 1) - i)) (pk_sub (a := t - 1) (b := i) (by omega)) ?_
      refine gy_ild (i := ((t - 1) - i)) hx hb hK hP 1 rfl (by omega) (by omega) dX1_pathTo_86 ?_
      refine gy_ist (i := i) hx hb hK hP hD hS 1 rfl (by omega) (by omega) dX1_pathTo_87 (fun H locs hP hD hS => ?_)
      have hP : va_P D vwCl [(h0, .inr (1, [v0, v1, v2, .ref a3, v4, v5, v6, v7, v8, .ref a9])), (a3, .inl (cI, 38, .inl (upd pf i (pf ((t - 1) - i))))), (a9, .inl (cI, 3000, .inl cm))] H := hP
      have hD : va_D A [(h0, .inr (1, [v0, v1, v2, .ref a3, v4, v5, v6, v7, v8, .ref a9])), (a3, .inl (cI, 38, .inl (upd pf i (pf ((t - 1) - i))))), (a9, .inl (cI, 3000, .inl cm))] := hD
      refine lv_aload_n hx hb dX1_pathTo_88 rfl (lv_at hl 4 rfl) ?_
      refine va_get (D := D) (ci := 1) (v := .ref a3) (C := RX1) (T := TX1) (N := 10) hx hb hts (fun _ h => List.mem_cons_of_mem _ (List.mem_append_left _ (List.mem_append_right _ h))) hown hK hP 0 rfl rfl 3 (by decide) (hts (.fieldLink RX1 17 "LitmusHall$Explorer" "path" "[I") (by decide +kernel)) (fun _ h9 => h9) rfl dX1_pathTo_89 ?_
      refine lv_iload_n hx hb dX1_pathTo_92 rfl (lv_at hl 3 rfl) ?_
      refine lv_iconst (v := 1) hx hb dX1_pathTo_93 (by decide) ?_
      refine lv_isub hx hb dX1_pathTo_94 ?_
      refine gx_top (y := nI (t - 1)) (pk_sub (a := t) (b := 1) (by omega)) ?_
      refine lv_iload hx hb dX1_pathTo_95 (lv_at hl 1 rfl) ?_
      refine lv_isub hx hb dX1_pathTo_97 ?_
      refine gx_top (y := nI ((t - 1) - i)) (pk_sub (a := t - 1) (b := i) (by omega)) ?_
      refine lv_iload hx hb dX1_pathTo_98 (lv_at hl 0 rfl) ?_
      refine gy_ist (i := ((t - 1) - i)) hx hb hK hP hD hS 1 rfl (by omega) (by omega) dX1_pathTo_100 (fun H locs hP hD hS => ?_)
      have hP : va_P D vwCl [(h0, .inr (1, [v0, v1, v2, .ref a3, v4, v5, v6, v7, v8, .ref a9])), (a3, .inl (cI, 38, .inl (upd (upd pf i (pf ((t - 1) - i))) ((t - 1) - i) (pf i)))), (a9, .inl (cI, 3000, .inl cm))] H := hP
      have hD : va_D A [(h0, .inr (1, [v0, v1, v2, .ref a3, v4, v5, v6, v7, v8, .ref a9])), (a3, .inl (cI, 38, .inl (upd (upd pf i (pf ((t - 1) - i))) ((t - 1) - i) (pf i)))), (a9, .inl (cI, 3000, .inl cm))] := hD
      refine lv_iinc (v := nI (i + 1)) (lv' := [(4, .int (nI (i + 1))), (5, .int (pf i)), (3, .int (nI h)), (2, .int (nI t)), (0, .ref h0), (1, .int (nI n))]) hx hb dX1_pathTo_101 hl (k := 1) rfl (nI_add i 1) (by decide) rfl (fun ls hl => ?_)
      refine lv_goto (tgt := 53) hx hb dX1_pathTo_104 (by decide) ?_
      exact ih53 ((i + 1), (upd (upd pf i (pf ((t - 1) - i))) ((t - 1) - i) (pf i))) H locs ls ⟨(by show (i + 1) ≤ t / 2; omega), (gRv_s hi53_1 (by omega)), hP, hD, hS, lv_sub hl [0, 2, 3, 4, 5] rfl⟩ (by show t - (i + 1) < t - i; omega)
  · refine lv_aload_n hx hb dX1_pathTo_10 rfl (lv_at hl 2 rfl) ?_
    refine va_get (D := D) (ci := 1) (v := .ref a9) (C := RX1) (T := TX1) (N := 10) hx hb hts (fun _ h => List.mem_cons_of_mem _ (List.mem_append_left _ (List.mem_append_right _ h))) hown hK hP 0 rfl rfl 9 (by decide) (hts (.fieldLink RX1 38 "LitmusHall$Explorer" "came" "[I") (by decide +kernel)) (fun _ h9 => h9) rfl dX1_pathTo_11 ?_
    refine lv_iload_n hx hb dX1_pathTo_14 rfl (lv_at hl 0 rfl) ?_
    refine gy_ild (i := h) hx hb hK hP 2 rfl (by omega) (by omega) dX1_pathTo_15 ?_
    refine lv_iconst (v := (-1)) hx hb dX1_pathTo_16 (by decide) ?_
    refine lv_icmp_eq (tgt := 50) hx hb dX1_pathTo_17 (by decide) (fun c_3 => ?_) (fun c_3 => ?_)
    · have htl : t = lq := by first | omega | (have z9 := gPth_z hi4_3 c_3 (by omega); omega)
      refine lv_iconst (v := 0) hx hb dX1_pathTo_50 (by decide) ?_
      refine lv_istore (lv' := [(4, .int 0), (3, .int (nI h)), (2, .int (nI t)), (0, .ref h0), (1, .int (nI n))]) hx hb dX1_pathTo_51 hl (by decide) rfl (fun ls hl => ?_)
      refine gy_loop0 (I := fun (x9 : Nat × (Nat → Int32)) H locs ls => (x9.1 ≤ t / 2) ∧ (gRv ps t x9.1 x9.2) ∧ va_P D vwCl [(h0, .inr (1, [v0, v1, v2, .ref a3, v4, v5, v6, v7, v8, .ref a9])), (a3, .inl (cI, 38, .inl x9.2)), (a9, .inl (cI, 3000, .inl cm))] H ∧ va_D A [(h0, .inr (1, [v0, v1, v2, .ref a3, v4, v5, v6, v7, v8, .ref a9])), (a3, .inl (cI, 38, .inl x9.2)), (a9, .inl (cI, 3000, .inl cm))] ∧ va_S A s.heap H locs ∧ lv_has ls 6 [(4, .int (nI x9.1)), (3, .int (nI h)), (2, .int (nI t)), (0, .ref h0), (1, .int (nI n))]) (μ := fun (x9 : Nat × (Nat → Int32)) => t - x9.1) (fun x9 H locs ls hI ih53 => ?_) (0, pf) ⟨(by show 0 ≤ t / 2; exact Nat.zero_le _), (gRv_0 (fun j hj => by rw [htl]; exact hi4_4 j hj)), hP, hD, hS, lv_sub hl [0, 1, 2, 3, 4] rfl⟩
      obtain ⟨i, pf⟩ := x9
      obtain ⟨hi53_0, hi53_1, hP, hD, hS, hl⟩ := hI
      have hi53_0 : i ≤ t / 2 := hi53_0
      have hi53_1 : gRv ps t i pf := hi53_1
      have hP : va_P D vwCl [(h0, .inr (1, [v0, v1, v2, .ref a3, v4, v5, v6, v7, v8, .ref a9])), (a3, .inl (cI, 38, .inl pf)), (a9, .inl (cI, 3000, .inl cm))] H := hP
      have hD : va_D A [(h0, .inr (1, [v0, v1, v2, .ref a3, v4, v5, v6, v7, v8, .ref a9])), (a3, .inl (cI, 38, .inl pf)), (a9, .inl (cI, 3000, .inl cm))] := hD
      have hS : va_S A s.heap H locs := hS
      have hl : lv_has ls 6 [(4, .int (nI i)), (3, .int (nI h)), (2, .int (nI t)), (0, .ref h0), (1, .int (nI n))] := hl
      refine lv_iload hx hb dX1_pathTo_53 (lv_at hl 0 rfl) ?_
      refine lv_iload_n hx hb dX1_pathTo_55 rfl (lv_at hl 2 rfl) ?_
      refine lv_iconst (v := 2) hx hb dX1_pathTo_56 (by decide) ?_
      refine lv_idiv hx hb dX1_pathTo_57 (by decide) ?_
      refine gx_top (y := nI ((t) / 2)) (gy_div (a := t) (b := 2) (by omega) (by decide)) ?_
      refine gy_ge (a := i) (b := ((t) / 2)) (tgt := 107) hx hb (by omega) (by omega) dX1_pathTo_58 (by decide) (fun c_4 => ?_) (fun c_4 => ?_)
      · refine lv_iload_n hx hb dX1_pathTo_107 rfl (lv_at hl 2 rfl) ?_
        exact gx_iret (w' := [(h0, .inr (1, [v0, v1, v2, .ref a3, v4, v5, v6, v7, v8, .ref a9])), (a3, .inl (cI, 38, .inl pf)), (a9, .inl (cI, 3000, .inl cm))]) hx hb hr hlk hK hP hD hS (Nat.le_of_ble_eq_true rfl) (Nat.le_of_ble_eq_true rfl) dX1_pathTo_108 ⟨t, pf, (by omega), htl, (by rw [← htl]; exact gRv_e hi53_1 (by omega)), rfl, rfl⟩
      · refine lv_aload_n hx hb dX1_pathTo_61 rfl (lv_at hl 3 rfl) ?_
        refine va_get (D := D) (ci := 1) (v := .ref a3) (C := RX1) (T := TX1) (N := 10) hx hb hts (fun _ h => List.mem_cons_of_mem _ (List.mem_append_left _ (List.mem_append_right _ h))) hown hK hP 0 rfl rfl 3 (by decide) (hts (.fieldLink RX1 17 "LitmusHall$Explorer" "path" "[I") (by decide +kernel)) (fun _ h9 => h9) rfl dX1_pathTo_62 ?_
        refine lv_iload hx hb dX1_pathTo_65 (lv_at hl 0 rfl) ?_
        refine gy_ild (i := i) hx hb hK hP 1 rfl (by omega) (by omega) dX1_pathTo_67 ?_
        refine lv_istore (lv' := [(5, .int (pf i)), (4, .int (nI i)), (3, .int (nI h)), (2, .int (nI t)), (0, .ref h0), (1, .int (nI n))]) hx hb dX1_pathTo_68 hl (by decide) rfl (fun ls hl => ?_)
        refine lv_aload_n hx hb dX1_pathTo_70 rfl (lv_at hl 4 rfl) ?_
        refine va_get (D := D) (ci := 1) (v := .ref a3) (C := RX1) (T := TX1) (N := 10) hx hb hts (fun _ h => List.mem_cons_of_mem _ (List.mem_append_left _ (List.mem_append_right _ h))) hown hK hP 0 rfl rfl 3 (by decide) (hts (.fieldLink RX1 17 "LitmusHall$Explorer" "path" "[I") (by decide +kernel)) (fun _ h9 => h9) rfl dX1_pathTo_71 ?_
        refine lv_iload hx hb dX1_pathTo_74 (lv_at hl 1 rfl) ?_
        refine lv_aload_n hx hb dX1_pathTo_76 rfl (lv_at hl 4 rfl) ?_
        refine va_get (D := D) (ci := 1) (v := .ref a3) (C := RX1) (T := TX1) (N := 10) hx hb hts (fun _ h => List.mem_cons_of_mem _ (List.mem_append_left _ (List.mem_append_right _ h))) hown hK hP 0 rfl rfl 3 (by decide) (hts (.fieldLink RX1 17 "LitmusHall$Explorer" "path" "[I") (by decide +kernel)) (fun _ h9 => h9) rfl dX1_pathTo_77 ?_
        refine lv_iload_n hx hb dX1_pathTo_80 rfl (lv_at hl 3 rfl) ?_
        refine lv_iconst (v := 1) hx hb dX1_pathTo_81 (by decide) ?_
        refine lv_isub hx hb dX1_pathTo_82 ?_
        refine gx_top (y := nI (t - 1)) (pk_sub (a := t) (b := 1) (by omega)) ?_
        refine lv_iload hx hb dX1_pathTo_83 (lv_at hl 1 rfl) ?_
        refine lv_isub hx hb dX1_pathTo_85 ?_
        refine gx_top (y := nI ((t - 1) - i)) (pk_sub (a := t - 1) (b := i) (by omega)) ?_
        refine gy_ild (i := ((t - 1) - i)) hx hb hK hP 1 rfl (by omega) (by omega) dX1_pathTo_86 ?_
        refine gy_ist (i := i) hx hb hK hP hD hS 1 rfl (by omega) (by omega) dX1_pathTo_87 (fun H locs hP hD hS => ?_)
        have hP : va_P D vwCl [(h0, .inr (1, [v0, v1, v2, .ref a3, v4, v5, v6, v7, v8, .ref a9])), (a3, .inl (cI, 38, .inl (upd pf i (pf ((t - 1) - i))))), (a9, .inl (cI, 3000, .inl cm))] H := hP
        have hD : va_D A [(h0, .inr (1, [v0, v1, v2, .ref a3, v4, v5, v6, v7, v8, .ref a9])), (a3, .inl (cI, 38, .inl (upd pf i (pf ((t - 1) - i))))), (a9, .inl (cI, 3000, .inl cm))] := hD
        refine lv_aload_n hx hb dX1_pathTo_88 rfl (lv_at hl 4 rfl) ?_
        refine va_get (D := D) (ci := 1) (v := .ref a3) (C := RX1) (T := TX1) (N := 10) hx hb hts (fun _ h => List.mem_cons_of_mem _ (List.mem_append_left _ (List.mem_append_right _ h))) hown hK hP 0 rfl rfl 3 (by decide) (hts (.fieldLink RX1 17 "LitmusHall$Explorer" "path" "[I") (by decide +kernel)) (fun _ h9 => h9) rfl dX1_pathTo_89 ?_
        refine lv_iload_n hx hb dX1_pathTo_92 rfl (lv_at hl 3 rfl) ?_
        refine lv_iconst (v := 1) hx hb dX1_pathTo_93 (by decide) ?_
        refine lv_isub hx hb dX1_pathTo_94 ?_
        refine gx_top (y := nI (t - 1)) (pk_sub (a := t) (b := 1) (by omega)) ?_
        refine lv_iload hx hb dX1_pathTo_95 (lv_at hl 1 rfl) ?_
        refine lv_isub hx hb dX1_pathTo_97 ?_
        refine gx_top (y := nI ((t - 1) - i)) (pk_sub (a := t - 1) (b := i) (by omega)) ?_
        refine lv_iload hx hb dX1_pathTo_98 (lv_at hl 0 rfl) ?_
        refine gy_ist (i := ((t - 1) - i)) hx hb hK hP hD hS 1 rfl (by omega) (by omega) dX1_pathTo_100 (fun H locs hP hD hS => ?_)
        have hP : va_P D vwCl [(h0, .inr (1, [v0, v1, v2, .ref a3, v4, v5, v6, v7, v8, .ref a9])), (a3, .inl (cI, 38, .inl (upd (upd pf i (pf ((t - 1) - i))) ((t - 1) - i) (pf i)))), (a9, .inl (cI, 3000, .inl cm))] H := hP
        have hD : va_D A [(h0, .inr (1, [v0, v1, v2, .ref a3, v4, v5, v6, v7, v8, .ref a9])), (a3, .inl (cI, 38, .inl (upd (upd pf i (pf ((t - 1) - i))) ((t - 1) - i) (pf i)))), (a9, .inl (cI, 3000, .inl cm))] := hD
        refine lv_iinc (v := nI (i + 1)) (lv' := [(4, .int (nI (i + 1))), (5, .int (pf i)), (3, .int (nI h)), (2, .int (nI t)), (0, .ref h0), (1, .int (nI n))]) hx hb dX1_pathTo_101 hl (k := 1) rfl (nI_add i 1) (by decide) rfl (fun ls hl => ?_)
        refine lv_goto (tgt := 53) hx hb dX1_pathTo_104 (by decide) ?_
        exact ih53 ((i + 1), (upd (upd pf i (pf ((t - 1) - i))) ((t - 1) - i) (pf i))) H locs ls ⟨(by show (i + 1) ≤ t / 2; omega), (gRv_s hi53_1 (by omega)), hP, hD, hS, lv_sub hl [0, 2, 3, 4, 5] rfl⟩ (by show t - (i + 1) < t - i; omega)
    · obtain ⟨q, hq1, hq2⟩ := (hcm h (by omega)).resolve_left c_3
      obtain ⟨p9, q9, hp9a, hp9b, hp9c, hp9f, hp9d, hp9e⟩ := gPth_s hi4_3 c_3
      have hqe : q = p9 * 8 + q9 := (nI_eq (by omega) (by omega)).mp (hq2.symm.trans hp9c)
      have hq8 : (cm h).toBitVec.toNat % 8 = ps (lq - 1 - t) := by rw [hp9c, pk_tn (by omega), show lq - 1 - t = lq - t - 1 by omega, hp9d]; omega
      refine lv_aload_n hx hb dX1_pathTo_20 rfl (lv_at hl 2 rfl) ?_
      refine va_get (D := D) (ci := 1) (v := .ref a3) (C := RX1) (T := TX1) (N := 10) hx hb hts (fun _ h => List.mem_cons_of_mem _ (List.mem_append_left _ (List.mem_append_right _ h))) hown hK hP 0 rfl rfl 3 (by decide) (hts (.fieldLink RX1 17 "LitmusHall$Explorer" "path" "[I") (by decide +kernel)) (fun _ h9 => h9) rfl dX1_pathTo_21 ?_
      refine lv_iload_n hx hb dX1_pathTo_24 rfl (lv_at hl 1 rfl) ?_
      refine lv_aload_n hx hb dX1_pathTo_25 rfl (lv_at hl 2 rfl) ?_
      refine va_get (D := D) (ci := 1) (v := .ref a9) (C := RX1) (T := TX1) (N := 10) hx hb hts (fun _ h => List.mem_cons_of_mem _ (List.mem_append_left _ (List.mem_append_right _ h))) hown hK hP 0 rfl rfl 9 (by decide) (hts (.fieldLink RX1 38 "LitmusHall$Explorer" "came" "[I") (by decide +kernel)) (fun _ h9 => h9) rfl dX1_pathTo_26 ?_
      refine lv_iload_n hx hb dX1_pathTo_29 rfl (lv_at hl 0 rfl) ?_
      refine gy_ild (i := h) hx hb hK hP 2 rfl (by omega) (by omega) dX1_pathTo_30 ?_
      refine lv_bipush (v := 7) hx hb dX1_pathTo_31 (by decide) ?_
      refine lv_iand hx hb dX1_pathTo_33 ?_
      refine gx_top (pk_and (cm h) (m := 7) 3 (by decide +kernel)) ?_
      have hj5 : (cm h).toBitVec.toNat % 8 < 8 := Nat.mod_lt _ (by decide)
      refine gy_ist (i := t) hx hb hK hP hD hS 1 rfl (by omega) (by omega) dX1_pathTo_34 (fun H locs hP hD hS => ?_)
      have hP : va_P D vwCl [(h0, .inr (1, [v0, v1, v2, .ref a3, v4, v5, v6, v7, v8, .ref a9])), (a3, .inl (cI, 38, .inl (upd pf t (nI ((cm h).toBitVec.toNat % 8))))), (a9, .inl (cI, 3000, .inl cm))] H := hP
      have hD : va_D A [(h0, .inr (1, [v0, v1, v2, .ref a3, v4, v5, v6, v7, v8, .ref a9])), (a3, .inl (cI, 38, .inl (upd pf t (nI ((cm h).toBitVec.toNat % 8))))), (a9, .inl (cI, 3000, .inl cm))] := hD
      refine lv_aload_n hx hb dX1_pathTo_35 rfl (lv_at hl 2 rfl) ?_
      refine va_get (D := D) (ci := 1) (v := .ref a9) (C := RX1) (T := TX1) (N := 10) hx hb hts (fun _ h => List.mem_cons_of_mem _ (List.mem_append_left _ (List.mem_append_right _ h))) hown hK hP 0 rfl rfl 9 (by decide) (hts (.fieldLink RX1 38 "LitmusHall$Explorer" "came" "[I") (by decide +kernel)) (fun _ h9 => h9) rfl dX1_pathTo_36 ?_
      refine lv_iload_n hx hb dX1_pathTo_39 rfl (lv_at hl 0 rfl) ?_
      refine gy_ild (i := h) hx hb hK hP 2 rfl (by omega) (by omega) dX1_pathTo_40 ?_
      refine gx_top (y := nI q) hq2 ?_
      refine lv_iconst (v := 3) hx hb dX1_pathTo_41 (by decide) ?_
      refine lv_ishr hx hb dX1_pathTo_42 ?_
      refine gx_top (y := nI (q / 8)) (pk_shrN (n := q) (by omega) _ 3 (by decide +kernel)) ?_
      refine lv_istore_n (lv' := [(3, .int (nI (q / 8))), (2, .int (nI t)), (0, .ref h0), (1, .int (nI n))]) hx hb dX1_pathTo_43 rfl hl (by decide) rfl (fun ls hl => ?_)
      refine lv_iinc (v := nI (t + 1)) (lv' := [(2, .int (nI (t + 1))), (3, .int (nI (q / 8))), (0, .ref h0), (1, .int (nI n))]) hx hb dX1_pathTo_44 hl (k := 1) rfl (nI_add t 1) (by decide) rfl (fun ls hl => ?_)
      refine lv_goto (tgt := 4) hx hb dX1_pathTo_47 (by decide) ?_
      exact ih4 ((t + 1), (q / 8), (upd pf t (nI ((cm h).toBitVec.toNat % 8)))) H locs ls ⟨(by show (t + 1) ≤ 38; omega), (by show (q / 8) < sz; omega), (by show (t + 1) ≤ lq; omega), (by show gPth cm ps (lq - (t + 1)) (q / 8); rw [show q / 8 = p9 by omega, show lq - (t + 1) = lq - t - 1 by omega]; exact hp9e), (by show ∀ j, j < (t + 1) → (upd pf t (nI ((cm h).toBitVec.toNat % 8))) j = nI (ps (lq - 1 - j)); exact (fun j hj => by by_cases e9 : j = t; (subst e9; rw [pk_us, hq8]); rw [pk_un e9]; exact hi4_4 j (by omega))), hP, hD, hS, lv_sub hl [1, 0, 2, 3] rfl⟩ (by show 38 - (t + 1) < 38 - t; omega)
