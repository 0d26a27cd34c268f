
def wsP_x_record : List Cond := .code yX2_record cX2_record 8 none :: (([.fieldLink RX2 45 "LitmusHall$Explorer" "ends" "[I", .fieldLink RX2 11 "LitmusHall$Findings" "records" "[I", .methodLink RX2 51 yJ7_fill_fda19, .static yJ7_fill_fda19, .initialized yJ7_fill_fda19.cls, .methodLink RX2 57 yX1_pathTo, .instanceMethod yX1_pathTo, .selects RX1 yX1_pathTo yX1_pathTo, .initialized RX1, .fieldLink RX2 61 "LitmusHall$Explorer" "path" "[I", .methodLink RX2 48 yX1_intOf, .instanceMethod yX1_intOf, .selects RX1 yX1_intOf yX1_intOf] ++ wsX10 ++ wsX20) ++ (wsP_x_fill4 ++ (wsP_x_pathTo ++ (wsP_x_xInt ++ []))))
theorem gW_x_record : wsP_x_record.all goodWord = true := by unfold wsP_x_record; exact gw_mk (by decide +kernel) (gw_app gW_x_fill4 (gw_app gW_x_pathTo (gw_app gW_x_xInt rfl)))
set_option maxRecDepth 20000 in
theorem gP_x_record__x_fill4 : GoodIn wsP_x_record (va_wsS RX2 51 yJ7_fill_fda19 wsP_x_fill4) := gw_in (pre := [.methodLink RX2 51 yJ7_fill_fda19, .static yJ7_fill_fda19, .initialized yJ7_fill_fda19.cls]) (by decide +kernel) (fun _ h => List.mem_cons_of_mem _ (List.mem_append_right _ (List.mem_append_left _ h))) gW_x_fill4
set_option maxRecDepth 20000 in
theorem gP_x_record__x_pathTo : GoodIn wsP_x_record (wsV RX2 57 RX1 yX1_pathTo wsP_x_pathTo) := gw_in (pre := [.methodLink RX2 57 yX1_pathTo, .instanceMethod yX1_pathTo, .selects RX1 yX1_pathTo yX1_pathTo, .initialized RX1]) (by decide +kernel) (fun _ h => List.mem_cons_of_mem _ (List.mem_append_right _ (List.mem_append_right _ (List.mem_append_left _ h)))) gW_x_pathTo
set_option maxRecDepth 20000 in
theorem gP_x_record__x_xInt : GoodIn wsP_x_record (wsV RX2 48 RX1 yX1_intOf wsP_x_xInt) := gw_in (pre := [.methodLink RX2 48 yX1_intOf, .instanceMethod yX1_intOf, .selects RX1 yX1_intOf yX1_intOf, .initialized RX1]) (by decide +kernel) (fun _ h => List.mem_cons_of_mem _ (List.mem_append_right _ (List.mem_append_right _ (List.mem_append_right _ (List.mem_append_left _ h))))) gW_x_xInt
set_option maxHeartbeats 4000000 in
set_option maxRecDepth 100000 in
theorem x_record (l : Launch) (D : va_G) (cI cB cZ : ClassId) (h0 : Nat) (a4 : Nat) (x0 : Nat) (a2 : Nat) (a3 : Nat) (a7 : Nat) (a9 : Nat) (v0 : Value) (v1 : Value) (v2 : Value) (v3 : Value) (w0 : Value) (w1 : Value) (w4 : Value) (w5 : Value) (w8 : Value) (rr : Nat) (rec : Nat → Int32) (wd : Nat) (sz : Nat) (es : Nat) (rl : Nat) (ef : Nat → Int32) (pf : Nat → Int32) (rf : Nat → Int32) (cm : Nat → Int32) (n : Nat) (mq : Nat) (lq : Nat) (ps : Nat → Nat) (hw16 : 16 ≤ wd) (hw34 : wd ≤ 34) (hrl : rl ≤ 102000) (hsz : sz ≤ 3000) (hfit : sz * wd ≤ rl) (hen : gEn ef es sz) (hcm : gCm cm sz) (hn : n < es) (hr1 : n * 17 + 17 ≤ rr) (hr2 : rr ≤ 51000) (hmq : ef n = nI mq ∧ mq < sz) (hp : gPth cm ps lq mq) (hl9 : lq ≤ 38) : gMv l yX2_record wsP_x_record ({ frames := 2, cells := 0, slots := 0, locals := 46 }) D cI cB cZ [] [.ref h0, .ref x0, .int (nI n)] [(h0, .inr (2, [v0, v1, v2, v3, .ref a4])), (a4, .inl (cI, rr, .inl rec)), (x0, .inr (1, [w0, w1, .ref a2, .ref a3, w4, w5, .int (nI wd), .ref a7, w8, .ref a9])), (a2, .inl (cI, 3000, .inl ef)), (a3, .inl (cI, 38, .inl pf)), (a7, .inl (cI, rl, .inl rf)), (a9, .inl (cI, 3000, .inl cm))] (fun w9 => ∃ rec9 : Nat → Int32, ∃ pf9 : Nat → Int32, (gFm rec9 rec (n * 17) 17) ∧ (∀ j, j < 13 → rec9 ((n * 17) + j) = rf ((mq * wd) + j)) ∧ (∀ j, j < 4 → rec9 (((n * 17) + 13) + j) = nI (gPk8 ps j (gNl lq j))) ∧ w9 = [(h0, .inr (2, [v0, v1, v2, v3, .ref a4])), (a4, .inl (cI, rr, .inl rec9)), (x0, .inr (1, [w0, w1, .ref a2, .ref a3, w4, w5, .int (nI wd), .ref a7, w8, .ref a9])), (a2, .inl (cI, 3000, .inl ef)), (a3, .inl (cI, 38, .inl pf9)), (a7, .inl (cI, rl, .inl rf)), (a9, .inl (cI, 3000, .inl cm))]) := by
  refine gMv.of (cc := cX2_record) (maxL := 8) (ret := none) (by decide) rfl (Nat.le_of_ble_eq_true rfl) (fun p e s m below meth c A ls hx hb hr hlk hml hts hown hin hA hP hK hD hS hN hl => ?_)
  have hown : s.vm.findClass RX2 = some m.cls := hown
  have hl : lv_has ls 8 [(0, .ref h0), (1, .ref x0), (2, .int (nI n))] := hl
  refine lv_aload_n hx hb dX2_record_0 rfl (lv_at hl 1 rfl) ?_
  refine va_get (D := D) (ci := 1) (v := .ref a2) (C := RX1) (T := TX1) (N := 10) hx hb hts (fun _ h => List.mem_cons_of_mem _ (List.mem_append_left _ (List.mem_append_left _ (List.mem_append_right _ h)))) hown hK hP 2 rfl rfl 2 (by decide) (hts (.fieldLink RX2 45 "LitmusHall$Explorer" "ends" "[I") (by decide +kernel)) (fun _ h9 => h9) rfl dX2_record_1 ?_
  refine lv_iload_n hx hb dX2_record_4 rfl (lv_at hl 2 rfl) ?_
  obtain ⟨q, hq1, hq2⟩ := hen n hn
  have hrow := gy_row (n := q) (sz := sz) (wd := wd) hq1
  have hqm : q = mq := (nI_eq (by omega) (by have := hmq.2; omega)).mp (hq2.symm.trans hmq.1)
  have hps6 := gPth_6 lq mq hp
  refine gy_ild (i := n) hx hb hK hP 3 rfl (by omega) (by omega) dX2_record_5 ?_
  refine gx_top (y := nI q) hq2 ?_
  refine lv_istore_n (lv' := [(3, .int (nI q)), (0, .ref h0), (1, .ref x0), (2, .int (nI n))]) hx hb dX2_record_6 rfl hl (by decide) rfl (fun ls hl => ?_)
  refine lv_iconst (v := 0) hx hb dX2_record_7 (by decide) ?_
  refine lv_istore (lv' := [(4, .int 0), (3, .int (nI q)), (0, .ref h0), (1, .ref x0), (2, .int (nI n))]) hx hb dX2_record_8 hl (by decide) rfl (fun ls hl => ?_)
  refine gy_loop0 (I := fun (x9 : Nat × (Nat → Int32)) H locs ls => (x9.1 ≤ 13) ∧ (gFm x9.2 rec (n * 17) 17) ∧ (∀ j, j < x9.1 → x9.2 ((n * 17) + j) = rf ((mq * wd) + j)) ∧ va_P D vwCl [(h0, .inr (2, [v0, v1, v2, v3, .ref a4])), (a4, .inl (cI, rr, .inl x9.2)), (x0, .inr (1, [w0, w1, .ref a2, .ref a3, w4, w5, .int (nI wd), .ref a7, w8, .ref a9])), (a2, .inl (cI, 3000, .inl ef)), (a3, .inl (cI, 38, .inl pf)), (a7, .inl (cI, rl, .inl rf)), (a9, .inl (cI, 3000, .inl cm))] H ∧ va_D A [(h0, .inr (2, [v0, v1, v2, v3, .ref a4])), (a4, .inl (cI, rr, .inl x9.2)), (x0, .inr (1, [w0, w1, .ref a2, .ref a3, w4, w5, .int (nI wd), .ref a7, w8, .ref a9])), (a2, .inl (cI, 3000, .inl ef)), (a3, .inl (cI, 38, .inl pf)), (a7, .inl (cI, rl, .inl rf)), (a9, .inl (cI, 3000, .inl cm))] ∧ va_S A s.heap H locs ∧ lv_has ls 8 [(4, .int (nI x9.1)), (3, .int (nI q)), (0, .ref h0), (1, .ref x0), (2, .int (nI n))]) (μ := fun (x9 : Nat × (Nat → Int32)) => 13 - x9.1) (fun x9 H locs ls hI ih10 => ?_) (0, rec) ⟨(by show 0 ≤ 13; exact Nat.le_of_ble_eq_true rfl), gFm_0, (by show ∀ j, j < 0 → rec ((n * 17) + j) = rf ((mq * wd) + j); exact (fun j h => absurd h (Nat.not_lt_zero j))), hP, hD, hS, lv_sub hl [0, 1, 2, 3, 4] rfl⟩
  obtain ⟨i, rec1⟩ := x9
  obtain ⟨hi10_0, hi10_1, hi10_2, hP, hD, hS, hl⟩ := hI
  have hi10_0 : i ≤ 13 := hi10_0
  have hi10_1 : gFm rec1 rec (n * 17) 17 := hi10_1
  have hi10_2 : ∀ j, j < i → rec1 ((n * 17) + j) = rf ((mq * wd) + j) := hi10_2
  have hP : va_P D vwCl [(h0, .inr (2, [v0, v1, v2, v3, .ref a4])), (a4, .inl (cI, rr, .inl rec1)), (x0, .inr (1, [w0, w1, .ref a2, .ref a3, w4, w5, .int (nI wd), .ref a7, w8, .ref a9])), (a2, .inl (cI, 3000, .inl ef)), (a3, .inl (cI, 38, .inl pf)), (a7, .inl (cI, rl, .inl rf)), (a9, .inl (cI, 3000, .inl cm))] H := hP
  have hD : va_D A [(h0, .inr (2, [v0, v1, v2, v3, .ref a4])), (a4, .inl (cI, rr, .inl rec1)), (x0, .inr (1, [w0, w1, .ref a2, .ref a3, w4, w5, .int (nI wd), .ref a7, w8, .ref a9])), (a2, .inl (cI, 3000, .inl ef)), (a3, .inl (cI, 38, .inl pf)), (a7, .inl (cI, rl, .inl rf)), (a9, .inl (cI, 3000, .inl cm))] := hD
  have hS : va_S A s.heap H locs := hS
  have hl : lv_has ls 8 [(4, .int (nI i)), (3, .int (nI q)), (0, .ref h0), (1, .ref x0), (2, .int (nI n))] := hl
  refine lv_iload hx hb dX2_record_10 (lv_at hl 0 rfl) ?_
  refine lv_bipush (v := 13) hx hb dX2_record_12 (by decide) ?_
  refine gy_ge (a := i) (b := 13) (tgt := 42) hx hb (by omega) (by omega) dX2_record_14 (by decide) (fun c_1 => ?_) (fun c_1 => ?_)
  · refine lv_iload_n hx hb dX2_record_42 rfl (lv_at hl 4 rfl) ?_
    refine lv_bipush (v := 17) hx hb dX2_record_43 (by decide) ?_
    refine lv_imul hx hb dX2_record_45 ?_
    refine gx_top (y := nI (n * 17)) (pk_mul n 17) ?_
    refine lv_bipush (v := 13) hx hb dX2_record_46 (by decide) ?_
    refine lv_iadd hx hb dX2_record_48 ?_
    refine gx_top (y := nI ((n * 17) + 13)) (nI_add (n * 17) 13) ?_
    refine lv_istore (lv' := [(4, .int (nI ((n * 17) + 13))), (3, .int (nI q)), (0, .ref h0), (1, .ref x0), (2, .int (nI n))]) hx hb dX2_record_49 hl (by decide) rfl (fun ls hl => ?_)
    refine lv_aload_n hx hb dX2_record_51 rfl (lv_at hl 2 rfl) ?_
    refine va_get (D := D) (ci := 2) (v := .ref a4) (C := RX2) (T := TX2) (N := 5) hx hb hts (fun _ h => List.mem_cons_of_mem _ (List.mem_append_left _ (List.mem_append_right _ h))) hown hK hP 0 rfl rfl 4 (by decide) (hts (.fieldLink RX2 11 "LitmusHall$Findings" "records" "[I") (by decide +kernel)) (fun _ h9 => h9) rfl dX2_record_52 ?_
    refine lv_iload hx hb dX2_record_55 (lv_at hl 0 rfl) ?_
    refine lv_iload hx hb dX2_record_57 (lv_at hl 0 rfl) ?_
    refine lv_iconst (v := 4) hx hb dX2_record_59 (by decide) ?_
    refine lv_iadd hx hb dX2_record_60 ?_
    refine gx_top (y := nI (((n * 17) + 13) + 4)) (nI_add ((n * 17) + 13) 4) ?_
    refine lv_iconst (v := 0) hx hb dX2_record_61 (by decide) ?_
    refine gx_gov (wc := [(a4, .inl (cI, rr, .inl rec1))]) (wr := [(h0, .inr (2, [v0, v1, v2, v3, .ref a4])), (x0, .inr (1, [w0, w1, .ref a2, .ref a3, w4, w5, .int (nI wd), .ref a7, w8, .ref a9])), (a2, .inl (cI, 3000, .inl ef)), (a3, .inl (cI, 38, .inl pf)), (a7, .inl (cI, rl, .inl rf)), (a9, .inl (cI, 3000, .inl cm))]) (va_runS (As := [.ref a4, .int (nI ((n * 17) + 13)), .int (nI (((n * 17) + 13) + 4)), .int 0]) (rest := []) ⟨hx, hb, hml, hown, hts⟩ (x_fill4 l D cI cB cZ a4 rr rec1 ((n * 17) + 13) (((n * 17) + 13) + 4) 0 (by omega) (by omega) (by omega) _) (va_cwS 4 hts gP_x_record__x_fill4 rfl rfl rfl (by decide +kernel) ⟨Nat.le_of_ble_eq_true rfl, Nat.le_of_ble_eq_true rfl⟩) (gx_preS hK gN.nil hP hD [1] rfl rfl) rfl rfl hl.1 rfl (lv_room (Nat.le_of_ble_eq_true rfl)) dX2_record_62 ⟨Nat.le_of_ble_eq_true rfl, Nat.le_of_ble_eq_true rfl⟩) hP hD hS hA [1] [0, 2, 3, 4, 5, 6] rfl rfl rfl (by decide) (fun w1 H locs hp hP hD hS => ?_)
    obtain ⟨e_2, hx62_0, hx62_1, rfl⟩ := hp
    have hx62_0 : ∀ j, ((n * 17) + 13) ≤ j → j < (((n * 17) + 13) + 4) → e_2 j = 0 := hx62_0
    have hx62_1 : ∀ j, (j < ((n * 17) + 13) ∨ (((n * 17) + 13) + 4) ≤ j) → e_2 j = rec1 j := hx62_1
    refine lv_aload_n hx hb dX2_record_65 rfl (lv_at hl 3 rfl) ?_
    refine lv_iload_n hx hb dX2_record_66 rfl (lv_at hl 1 rfl) ?_
    refine gx_goi (wc := [(x0, .inr (1, [w0, w1, .ref a2, .ref a3, w4, w5, .int (nI wd), .ref a7, w8, .ref a9])), (a3, .inl (cI, 38, .inl pf)), (a9, .inl (cI, 3000, .inl cm))]) (wr := [(h0, .inr (2, [v0, v1, v2, v3, .ref a4])), (a2, .inl (cI, 3000, .inl ef)), (a7, .inl (cI, rl, .inl rf)), (a4, .inl (cI, rr, .inl e_2))]) (va_runV (As := [.int (nI q)]) (rest := []) ⟨hx, hb, hml, hown, hts⟩ (x_pathTo l D cI cB cZ x0 a3 a9 (w0) (w1) (.ref a2) (w4) (w5) (.int (nI wd)) (.ref a7) (w8) sz pf cm q lq ps (by omega) (by omega) hcm (by rw [hqm]; exact hp) hl9 _) (cwV 1 hts gP_x_record__x_pathTo rfl rfl rfl (by decide +kernel) ⟨Nat.le_of_ble_eq_true rfl, Nat.le_of_ble_eq_true rfl⟩) (gx_preV (ci := 1) (q0 := 0) hK gN.nil hP hD [1, 3, 5] rfl rfl rfl rfl) rfl rfl hl.1 rfl (lv_room (Nat.le_of_ble_eq_true rfl)) dX2_record_67 ⟨Nat.le_of_ble_eq_true rfl, Nat.le_of_ble_eq_true rfl⟩) hP hD hS hA [1, 3, 5] [0, 2, 4, 6] rfl rfl rfl (by decide) (fun r1 w1 H locs hp hP hD hS => ?_)
    obtain ⟨t, e_3, hq_4, hx67_0, hx67_1, h9, rfl⟩ := hp
    have h9 := h9.symm
    subst h9
    have hq_4 : t ≤ 38 := hq_4
    have hx67_0 : t = lq := hx67_0
    have hx67_1 : ∀ j, j < lq → e_3 j = nI (ps j) := hx67_1
    have htl := hx67_0
    have hpp := hx67_1
    refine lv_istore (lv' := [(5, .int (nI t)), (4, .int (nI ((n * 17) + 13))), (3, .int (nI q)), (0, .ref h0), (1, .ref x0), (2, .int (nI n))]) hx hb dX2_record_70 hl (by decide) rfl (fun ls hl => ?_)
    refine lv_iconst (v := 0) hx hb dX2_record_72 (by decide) ?_
    refine lv_istore (lv' := [(6, .int 0), (5, .int (nI t)), (4, .int (nI ((n * 17) + 13))), (3, .int (nI q)), (0, .ref h0), (1, .ref x0), (2, .int (nI n))]) hx hb dX2_record_73 hl (by decide) rfl (fun ls hl => ?_)
    refine gy_loop0 (I := fun (x9 : Nat × (Nat → Int32)) H locs ls => (x9.1 ≤ t) ∧ (gFm x9.2 rec (n * 17) 17) ∧ (∀ j, j < 13 → x9.2 ((n * 17) + j) = rf ((mq * wd) + j)) ∧ (∀ j, j < 4 → x9.2 (((n * 17) + 13) + j) = nI (gPk8 ps j (gNl x9.1 j))) ∧ va_P D vwCl [(h0, .inr (2, [v0, v1, v2, v3, .ref a4])), (a2, .inl (cI, 3000, .inl ef)), (a7, .inl (cI, rl, .inl rf)), (a4, .inl (cI, rr, .inl x9.2)), (x0, .inr (1, [w0, w1, .ref a2, .ref a3, w4, w5, .int (nI wd), .ref a7, w8, .ref a9])), (a3, .inl (cI, 38, .inl e_3)), (a9, .inl (cI, 3000, .inl cm))] H ∧ va_D A [(h0, .inr (2, [v0, v1, v2, v3, .ref a4])), (a2, .inl (cI, 3000, .inl ef)), (a7, .inl (cI, rl, .inl rf)), (a4, .inl (cI, rr, .inl x9.2)), (x0, .inr (1, [w0, w1, .ref a2, .ref a3, w4, w5, .int (nI wd), .ref a7, w8, .ref a9])), (a3, .inl (cI, 38, .inl e_3)), (a9, .inl (cI, 3000, .inl cm))] ∧ va_S A s.heap H locs ∧ lv_has ls 8 [(6, .int (nI x9.1)), (5, .int (nI t)), (4, .int (nI ((n * 17) + 13))), (3, .int (nI q)), (0, .ref h0), (1, .ref x0), (2, .int (nI n))]) (μ := fun (x9 : Nat × (Nat → Int32)) => t - x9.1) (fun x9 H locs ls hI ih75 => ?_) (0, e_2) ⟨(by show 0 ≤ t; exact Nat.zero_le _), (by show gFm e_2 rec (n * 17) 17; exact (fun j hj => (hx62_1 j (by omega)).trans (hi10_1 j hj))), (by show ∀ j, j < 13 → e_2 ((n * 17) + j) = rf ((mq * wd) + j); exact (fun j hj => (hx62_1 _ (by omega)).trans (hi10_2 j (by omega)))), (by show ∀ j, j < 4 → e_2 (((n * 17) + 13) + j) = nI (gPk8 ps j (gNl 0 j)); exact (fun j hj => (hx62_0 _ (by omega) (by omega)).trans (by rw [gNl_0]; rfl))), hP, hD, hS, lv_sub hl [0, 1, 2, 3, 4, 5, 6] rfl⟩
    obtain ⟨i, rec2⟩ := x9
    obtain ⟨hi75_0, hi75_1, hi75_2, hi75_3, hP, hD, hS, hl⟩ := hI
    have hi75_0 : i ≤ t := hi75_0
    have hi75_1 : gFm rec2 rec (n * 17) 17 := hi75_1
    have hi75_2 : ∀ j, j < 13 → rec2 ((n * 17) + j) = rf ((mq * wd) + j) := hi75_2
    have hi75_3 : ∀ j, j < 4 → rec2 (((n * 17) + 13) + j) = nI (gPk8 ps j (gNl i j)) := hi75_3
    have hP : va_P D vwCl [(h0, .inr (2, [v0, v1, v2, v3, .ref a4])), (a2, .inl (cI, 3000, .inl ef)), (a7, .inl (cI, rl, .inl rf)), (a4, .inl (cI, rr, .inl rec2)), (x0, .inr (1, [w0, w1, .ref a2, .ref a3, w4, w5, .int (nI wd), .ref a7, w8, .ref a9])), (a3, .inl (cI, 38, .inl e_3)), (a9, .inl (cI, 3000, .inl cm))] H := hP
    have hD : va_D A [(h0, .inr (2, [v0, v1, v2, v3, .ref a4])), (a2, .inl (cI, 3000, .inl ef)), (a7, .inl (cI, rl, .inl rf)), (a4, .inl (cI, rr, .inl rec2)), (x0, .inr (1, [w0, w1, .ref a2, .ref a3, w4, w5, .int (nI wd), .ref a7, w8, .ref a9])), (a3, .inl (cI, 38, .inl e_3)), (a9, .inl (cI, 3000, .inl cm))] := hD
    have hS : va_S A s.heap H locs := hS
    have hl : lv_has ls 8 [(6, .int (nI i)), (5, .int (nI t)), (4, .int (nI ((n * 17) + 13))), (3, .int (nI q)), (0, .ref h0), (1, .ref x0), (2, .int (nI n))] := hl
    refine lv_iload hx hb dX2_record_75 (lv_at hl 0 rfl) ?_
    refine lv_iload hx hb dX2_record_77 (lv_at hl 1 rfl) ?_
    refine gy_ge (a := i) (b := t) (tgt := 125) hx hb (by omega) (by omega) dX2_record_79 (by decide) (fun c_5 => ?_) (fun c_5 => ?_)
    · have hP := hP.sub (ws' := [(h0, .inr (2, [v0, v1, v2, v3, .ref a4])), (a4, .inl (cI, rr, .inl rec2)), (x0, .inr (1, [w0, w1, .ref a2, .ref a3, w4, w5, .int (nI wd), .ref a7, w8, .ref a9])), (a2, .inl (cI, 3000, .inl ef)), (a3, .inl (cI, 38, .inl e_3)), (a7, .inl (cI, rl, .inl rf)), (a9, .inl (cI, 3000, .inl cm))]) [0, 3, 4, 1, 5, 2, 6] rfl
      have hD := hD.sub (ws' := [(h0, .inr (2, [v0, v1, v2, v3, .ref a4])), (a4, .inl (cI, rr, .inl rec2)), (x0, .inr (1, [w0, w1, .ref a2, .ref a3, w4, w5, .int (nI wd), .ref a7, w8, .ref a9])), (a2, .inl (cI, 3000, .inl ef)), (a3, .inl (cI, 38, .inl e_3)), (a7, .inl (cI, rl, .inl rf)), (a9, .inl (cI, 3000, .inl cm))]) [0, 3, 4, 1, 5, 2, 6] (by decide) rfl
      exact gx_vret (w' := [(h0, .inr (2, [v0, v1, v2, v3, .ref a4])), (a4, .inl (cI, rr, .inl rec2)), (x0, .inr (1, [w0, w1, .ref a2, .ref a3, w4, w5, .int (nI wd), .ref a7, w8, .ref a9])), (a2, .inl (cI, 3000, .inl ef)), (a3, .inl (cI, 38, .inl e_3)), (a7, .inl (cI, rl, .inl rf)), (a9, .inl (cI, 3000, .inl cm))]) hx hb hr hlk hK hP hD hS (Nat.le_of_ble_eq_true rfl) (Nat.le_of_ble_eq_true rfl) dX2_record_125 ⟨rec2, e_3, hi75_1, hi75_2, (fun j hj => by rw [show lq = i by omega]; exact hi75_3 j hj), rfl⟩
    · refine lv_aload_n hx hb dX2_record_82 rfl (lv_at hl 5 rfl) ?_
      refine va_get (D := D) (ci := 1) (v := .ref a3) (C := RX1) (T := TX1) (N := 10) hx hb hts (fun _ h => List.mem_cons_of_mem _ (List.mem_append_left _ (List.mem_append_left _ (List.mem_append_right _ h)))) hown hK hP 4 rfl rfl 3 (by decide) (hts (.fieldLink RX2 61 "LitmusHall$Explorer" "path" "[I") (by decide +kernel)) (fun _ h9 => h9) rfl dX2_record_83 ?_
      refine lv_iload hx hb dX2_record_86 (lv_at hl 0 rfl) ?_
      refine gy_ild (i := i) hx hb hK hP 5 rfl (by omega) (by omega) dX2_record_88 ?_
      refine gx_top (y := nI (ps i)) (hpp i (by omega)) ?_
      refine lv_iconst (v := 1) hx hb dX2_record_89 (by decide) ?_
      refine lv_iadd hx hb dX2_record_90 ?_
      refine gx_top (y := nI ((ps i) + 1)) (nI_add (ps i) 1) ?_
      refine lv_istore (lv' := [(7, .int (nI ((ps i) + 1))), (6, .int (nI i)), (5, .int (nI t)), (4, .int (nI ((n * 17) + 13))), (3, .int (nI q)), (0, .ref h0), (1, .ref x0), (2, .int (nI n))]) hx hb dX2_record_91 hl (by decide) rfl (fun ls hl => ?_)
      refine lv_aload_n hx hb dX2_record_93 rfl (lv_at hl 5 rfl) ?_
      refine va_get (D := D) (ci := 2) (v := .ref a4) (C := RX2) (T := TX2) (N := 5) hx hb hts (fun _ h => List.mem_cons_of_mem _ (List.mem_append_left _ (List.mem_append_right _ h))) hown hK hP 0 rfl rfl 4 (by decide) (hts (.fieldLink RX2 11 "LitmusHall$Findings" "records" "[I") (by decide +kernel)) (fun _ h9 => h9) rfl dX2_record_94 ?_
      refine lv_iload hx hb dX2_record_97 (lv_at hl 3 rfl) ?_
      refine lv_iload hx hb dX2_record_99 (lv_at hl 1 rfl) ?_
      refine lv_bipush (v := 10) hx hb dX2_record_101 (by decide) ?_
      refine lv_idiv hx hb dX2_record_103 (by decide) ?_
      refine gx_top (y := nI ((i) / 10)) (gy_div (a := i) (b := 10) (by omega) (by decide)) ?_
      refine lv_iadd hx hb dX2_record_104 ?_
      refine gx_top (y := nI (((n * 17) + 13) + ((i) / 10))) (nI_add ((n * 17) + 13) ((i) / 10)) ?_
      refine lv_dup2_11 hx hb dX2_record_105 rfl rfl ?_
      refine gy_ild (i := (((n * 17) + 13) + ((i) / 10))) hx hb hK hP 3 rfl (by omega) (by omega) dX2_record_106 ?_
      refine gx_top (y := nI (gPk8 ps (i / 10) (i % 10))) ((hi75_3 (i / 10) (by omega)).trans (by rw [gNl_at])) ?_
      refine lv_iload hx hb dX2_record_107 (lv_at hl 0 rfl) ?_
      refine lv_iconst (v := 3) hx hb dX2_record_109 (by decide) ?_
      refine lv_iload hx hb dX2_record_110 (lv_at hl 1 rfl) ?_
      refine lv_bipush (v := 10) hx hb dX2_record_112 (by decide) ?_
      refine lv_irem hx hb dX2_record_114 (by decide) ?_
      refine gx_top (y := nI ((i) % 10)) (gy_rem (a := i) (b := 10) (by omega) (by decide)) ?_
      refine lv_imul hx hb dX2_record_115 ?_
      refine gx_top (y := nI (3 * ((i) % 10))) (pk_mul 3 ((i) % 10)) ?_
      refine lv_ishl hx hb dX2_record_116 ?_
      refine gx_top (y := nI ((ps i + 1) * 8 ^ (i % 10))) (gSh8 (by have := hps6 i (by omega); omega) (by omega)) ?_
      refine lv_ior hx hb dX2_record_117 ?_
      refine gx_top (y := nI (gPk8 ps (i / 10) (i % 10 + 1))) (by rw [gPk8_s, show 10 * (i / 10) + i % 10 = i by omega]; exact gOr8 (gPk8_lt _ (fun j9 h9 => by have := hps6 (10 * (i / 10) + j9) (by omega); omega)) (by have := hps6 i (by omega); omega) (by omega)) ?_
      refine gy_ist (i := (((n * 17) + 13) + ((i) / 10))) hx hb hK hP hD hS 3 rfl (by omega) (by omega) dX2_record_118 (fun H locs hP hD hS => ?_)
      have hP : va_P D vwCl [(h0, .inr (2, [v0, v1, v2, v3, .ref a4])), (a2, .inl (cI, 3000, .inl ef)), (a7, .inl (cI, rl, .inl rf)), (a4, .inl (cI, rr, .inl (upd rec2 (((n * 17) + 13) + ((i) / 10)) (nI (gPk8 ps (i / 10) (i % 10 + 1)))))), (x0, .inr (1, [w0, w1, .ref a2, .ref a3, w4, w5, .int (nI wd), .ref a7, w8, .ref a9])), (a3, .inl (cI, 38, .inl e_3)), (a9, .inl (cI, 3000, .inl cm))] H := hP
      have hD : va_D A [(h0, .inr (2, [v0, v1, v2, v3, .ref a4])), (a2, .inl (cI, 3000, .inl ef)), (a7, .inl (cI, rl, .inl rf)), (a4, .inl (cI, rr, .inl (upd rec2 (((n * 17) + 13) + ((i) / 10)) (nI (gPk8 ps (i / 10) (i % 10 + 1)))))), (x0, .inr (1, [w0, w1, .ref a2, .ref a3, w4, w5, .int (nI wd), .ref a7, w8, .ref a9])), (a3, .inl (cI, 38, .inl e_3)), (a9, .inl (cI, 3000, .inl cm))] := hD
      refine lv_iinc (v := nI (i + 1)) (lv' := [(6, .int (nI (i + 1))), (7, .int (nI ((ps i) + 1))), (5, .int (nI t)), (4, .int (nI ((n * 17) + 13))), (3, .int (nI q)), (0, .ref h0), (1, .ref x0), (2, .int (nI n))]) hx hb dX2_record_119 hl (k := 1) rfl (nI_add i 1) (by decide) rfl (fun ls hl => ?_)
      refine lv_goto (tgt := 75) hx hb dX2_record_122 (by decide) ?_
      exact ih75 ((i + 1), (upd rec2 (((n * 17) + 13) + ((i) / 10)) (nI (gPk8 ps (i / 10) (i % 10 + 1))))) H locs ls ⟨(by show (i + 1) ≤ t; omega), (gFm_u hi75_1 (by omega) (by omega)), (by show ∀ j, j < 13 → (upd rec2 (((n * 17) + 13) + ((i) / 10)) (nI (gPk8 ps (i / 10) (i % 10 + 1)))) ((n * 17) + j) = rf ((mq * wd) + j); exact (fun j hj => by rw [pk_un (by omega)]; exact hi75_2 j hj)), (by show ∀ j, j < 4 → (upd rec2 (((n * 17) + 13) + ((i) / 10)) (nI (gPk8 ps (i / 10) (i % 10 + 1)))) (((n * 17) + 13) + j) = nI (gPk8 ps j (gNl (i + 1) j)); exact (fun j hj => by by_cases e9 : j = i / 10; (subst e9; rw [pk_us, gNl_at1]); rw [pk_un (by omega), gNl_ne e9]; exact hi75_3 j hj)), hP, hD, hS, lv_sub hl [0, 2, 3, 4, 5, 6, 7] rfl⟩ (by show t - (i + 1) < t - i; omega)
  · refine lv_aload_n hx hb dX2_record_17 rfl (lv_at hl 2 rfl) ?_
    refine va_get (D := D) (ci := 2) (v := .ref a4) (C := RX2) (T := TX2) (N := 5) hx hb hts (fun _ h => List.mem_cons_of_mem _ (List.mem_append_left _ (List.mem_append_right _ h))) hown hK hP 0 rfl rfl 4 (by decide) (hts (.fieldLink RX2 11 "LitmusHall$Findings" "records" "[I") (by decide +kernel)) (fun _ h9 => h9) rfl dX2_record_18 ?_
    refine lv_iload_n hx hb dX2_record_21 rfl (lv_at hl 4 rfl) ?_
    refine lv_bipush (v := 17) hx hb dX2_record_22 (by decide) ?_
    refine lv_imul hx hb dX2_record_24 ?_
    refine gx_top (y := nI (n * 17)) (pk_mul n 17) ?_
    refine lv_iload hx hb dX2_record_25 (lv_at hl 0 rfl) ?_
    refine lv_iadd hx hb dX2_record_27 ?_
    refine gx_top (y := nI ((n * 17) + i)) (nI_add (n * 17) i) ?_
    refine lv_aload_n hx hb dX2_record_28 rfl (lv_at hl 3 rfl) ?_
    refine lv_iload_n hx hb dX2_record_29 rfl (lv_at hl 1 rfl) ?_
    refine lv_iload hx hb dX2_record_30 (lv_at hl 0 rfl) ?_
    refine gx_goi (wc := [(x0, .inr (1, [w0, w1, .ref a2, .ref a3, w4, w5, .int (nI wd), .ref a7, w8, .ref a9])), (a7, .inl (cI, rl, .inl rf))]) (wr := [(h0, .inr (2, [v0, v1, v2, v3, .ref a4])), (a4, .inl (cI, rr, .inl rec1)), (a2, .inl (cI, 3000, .inl ef)), (a3, .inl (cI, 38, .inl pf)), (a9, .inl (cI, 3000, .inl cm))]) (va_runV (As := [.int (nI q), .int (nI i)]) (rest := [.int (nI ((n * 17) + i)), .ref a4]) ⟨hx, hb, hml, hown, hts⟩ (x_xInt l D cI cB cZ x0 a7 (w0) (w1) (.ref a2) (.ref a3) (w4) (w5) (w8) (.ref a9) wd rl rf q i (by omega) (by omega) (by omega) (by omega) (by omega) _) (cwV 2 hts gP_x_record__x_xInt rfl rfl rfl (by decide +kernel) ⟨Nat.le_of_ble_eq_true rfl, Nat.le_of_ble_eq_true rfl⟩) (gx_preV (ci := 1) (q0 := 0) hK gN.nil hP hD [2, 5] rfl rfl rfl rfl) rfl rfl hl.1 rfl (lv_room (Nat.le_of_ble_eq_true rfl)) dX2_record_32 ⟨Nat.le_of_ble_eq_true rfl, Nat.le_of_ble_eq_true rfl⟩) hP hD hS hA [2, 5] [0, 1, 3, 4, 6] rfl rfl rfl (by decide) (fun r1 w1 H locs hp hP hD hS => ?_)
    obtain ⟨e_6, hx32_0, h9, rfl⟩ := hp
    have h9 := h9.symm
    subst h9
    have hx32_0 : e_6 = rf ((q * wd) + i) := hx32_0
    refine gy_ist (i := ((n * 17) + i)) hx hb hK hP hD hS 1 rfl (by omega) (by omega) dX2_record_35 (fun H locs hP hD hS => ?_)
    have hP : va_P D vwCl [(h0, .inr (2, [v0, v1, v2, v3, .ref a4])), (a4, .inl (cI, rr, .inl (upd rec1 ((n * 17) + i) e_6))), (a2, .inl (cI, 3000, .inl ef)), (a3, .inl (cI, 38, .inl pf)), (a9, .inl (cI, 3000, .inl cm)), (x0, .inr (1, [w0, w1, .ref a2, .ref a3, w4, w5, .int (nI wd), .ref a7, w8, .ref a9])), (a7, .inl (cI, rl, .inl rf))] H := hP
    have hD : va_D A [(h0, .inr (2, [v0, v1, v2, v3, .ref a4])), (a4, .inl (cI, rr, .inl (upd rec1 ((n * 17) + i) e_6))), (a2, .inl (cI, 3000, .inl ef)), (a3, .inl (cI, 38, .inl pf)), (a9, .inl (cI, 3000, .inl cm)), (x0, .inr (1, [w0, w1, .ref a2, .ref a3, w4, w5, .int (nI wd), .ref a7, w8, .ref a9])), (a7, .inl (cI, rl, .inl rf))] := hD
    refine lv_iinc (v := nI (i + 1)) (lv' := [(4, .int (nI (i + 1))), (3, .int (nI q)), (0, .ref h0), (1, .ref x0), (2, .int (nI n))]) hx hb dX2_record_36 hl (k := 0) rfl (nI_add i 1) (by decide) rfl (fun ls hl => ?_)
    refine lv_goto (tgt := 10) hx hb dX2_record_39 (by decide) ?_
    have hP := hP.sub (ws' := [(h0, .inr (2, [v0, v1, v2, v3, .ref a4])), (a4, .inl (cI, rr, .inl (upd rec1 ((n * 17) + i) e_6))), (x0, .inr (1, [w0, w1, .ref a2, .ref a3, w4, w5, .int (nI wd), .ref a7, w8, .ref a9])), (a2, .inl (cI, 3000, .inl ef)), (a3, .inl (cI, 38, .inl pf)), (a7, .inl (cI, rl, .inl rf)), (a9, .inl (cI, 3000, .inl cm))]) [0, 1, 5, 2, 3, 6, 4] rfl
    have hD := hD.sub (ws' := [(h0, .inr (2, [v0, v1, v2, v3, .ref a4])), (a4, .inl (cI, rr, .inl (upd rec1 ((n * 17) + i) e_6))), (x0, .inr (1, [w0, w1, .ref a2, .ref a3, w4, w5, .int (nI wd), .ref a7, w8, .ref a9])), (a2, .inl (cI, 3000, .inl ef)), (a3, .inl (cI, 38, .inl pf)), (a7, .inl (cI, rl, .inl rf)), (a9, .inl (cI, 3000, .inl cm))]) [0, 1, 5, 2, 3, 6, 4] (by decide) rfl
    exact ih10 ((i + 1), (upd rec1 ((n * 17) + i) e_6)) H locs ls ⟨(by show (i + 1) ≤ 13; omega), (gFm_u hi10_1 (by omega) (by omega)), (by show ∀ j, j < (i + 1) → (upd rec1 ((n * 17) + i) e_6) ((n * 17) + j) = rf ((mq * wd) + j); exact (fun j hj => by by_cases e9 : j = i; (subst e9; rw [pk_us]; exact hx32_0.trans (by rw [hqm])); rw [pk_un (by omega)]; exact hi10_2 j (by omega))), hP, hD, hS, lv_sub hl [0, 1, 2, 3, 4] rfl⟩ (by show 13 - (i + 1) < 13 - i; omega)
