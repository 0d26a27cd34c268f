
def wsP_x_scan : List Cond := .code yX6_scan cX6_scan 6 none :: (([.methodLink RX6 61 yX6_behindBlanks, .static yX6_behindBlanks, .initialized yX6_behindBlanks.cls, .fieldLink RX6 26 "LitmusHall$Reader" "starts" "[I", .methodLink RX6 65 yX6_behindRun, .static yX6_behindRun, .initialized yX6_behindRun.cls, .fieldLink RX6 22 "LitmusHall$Reader" "kinds" "[I", .methodLink RX6 68 yX6_kindOf, .static yX6_kindOf, .initialized yX6_kindOf.cls, .fieldLink RX6 29 "LitmusHall$Reader" "numbers" "[I", .methodLink RX6 71 yX6_numberOf, .static yX6_numberOf, .initialized yX6_numberOf.cls] ++ wsX60) ++ (wsP_x_blanks ++ (wsP_x_run ++ (wsP_e_kindOf ++ (wsP_x_num ++ [])))))
theorem gW_x_scan : wsP_x_scan.all goodWord = true := by unfold wsP_x_scan; exact gw_mk (by decide +kernel) (gw_app gW_x_blanks (gw_app gW_x_run (gw_app gW_e_kindOf (gw_app gW_x_num rfl))))
set_option maxRecDepth 20000 in
theorem gP_x_scan__x_blanks : GoodIn wsP_x_scan (va_wsS RX6 61 yX6_behindBlanks wsP_x_blanks) := gw_in (pre := [.methodLink RX6 61 yX6_behindBlanks, .static yX6_behindBlanks, .initialized yX6_behindBlanks.cls]) (by decide +kernel) (fun _ h => List.mem_cons_of_mem _ (List.mem_append_right _ (List.mem_append_left _ h))) gW_x_blanks
set_option maxRecDepth 20000 in
theorem gP_x_scan__x_run : GoodIn wsP_x_scan (va_wsS RX6 65 yX6_behindRun wsP_x_run) := gw_in (pre := [.methodLink RX6 65 yX6_behindRun, .static yX6_behindRun, .initialized yX6_behindRun.cls]) (by decide +kernel) (fun _ h => List.mem_cons_of_mem _ (List.mem_append_right _ (List.mem_append_right _ (List.mem_append_left _ h)))) gW_x_run
set_option maxRecDepth 20000 in
theorem gP_x_scan__e_kindOf : GoodIn wsP_x_scan (va_wsS RX6 68 yX6_kindOf wsP_e_kindOf) := gw_in (pre := [.methodLink RX6 68 yX6_kindOf, .static yX6_kindOf, .initialized yX6_kindOf.cls]) (by decide +kernel) (fun _ h => List.mem_cons_of_mem _ (List.mem_append_right _ (List.mem_append_right _ (List.mem_append_right _ (List.mem_append_left _ h))))) gW_e_kindOf
set_option maxRecDepth 20000 in
theorem gP_x_scan__x_num : GoodIn wsP_x_scan (va_wsS RX6 71 yX6_numberOf wsP_x_num) := gw_in (pre := [.methodLink RX6 71 yX6_numberOf, .static yX6_numberOf, .initialized yX6_numberOf.cls]) (by decide +kernel) (fun _ h => List.mem_cons_of_mem _ (List.mem_append_right _ (List.mem_append_right _ (List.mem_append_right _ (List.mem_append_right _ (List.mem_append_left _ h)))))) gW_x_num
set_option maxHeartbeats 4000000 in
set_option maxRecDepth 100000 in
theorem x_scan (l : Launch) (D : va_G) (cI cB cZ : ClassId) (K : gKS) (h0 : Nat) (k4 : Nat) (k5 : Nat) (k6 : Nat) (a : Nat) (v0 : Value) (v1 : Value) (v2 : Value) (v3 : Value) (v7 : Value) (v8 : Value) (v9 : Value) (v10 : Value) (v11 : Value) (Kd : Nat → Nat) (sf : Nat → Int32) (nf : Nat → Int32) (f : Nat → Int32) (sz : Nat) (hsz : sz ≤ 4000) (hR : gRdI Kd nf sf) : gMvE l yX6_scan wsP_x_scan ({ frames := 7, cells := 0, slots := 0, locals := 154 }) D cI cB cZ K [] [.ref h0, .ref a, .int (nI sz)] [(h0, .inr (6, [v0, v1, v2, v3, .ref k4, .ref k5, .ref k6, v7, v8, v9, v10, v11])), (k4, .inl (cI, 501, .inl (fun j => nI (Kd j)))), (k5, .inl (cI, 501, .inl sf)), (k6, .inl (cI, 501, .inl nf)), (a, .inl (cB, 4000, .inl f))] (fun w9 => ∃ Kd9 : Nat → Nat, ∃ sf9 : Nat → Int32, ∃ nf9 : Nat → Int32, ∃ E9 : Nat → Nat, (gRdI Kd9 nf9 sf9) ∧ (gTS f sz Kd9 sf9 nf9 E9) ∧ w9 = [(h0, .inr (6, [v0, v1, v2, v3, .ref k4, .ref k5, .ref k6, v7, v8, v9, v10, v11])), (k4, .inl (cI, 501, .inl (fun j => nI (Kd9 j)))), (k5, .inl (cI, 501, .inl sf9)), (k6, .inl (cI, 501, .inl nf9)), (a, .inl (cB, 4000, .inl f))]) := by
  refine gMvE.of (cc := cX6_scan) (maxL := 6) (ret := none) (by decide) rfl (Nat.le_of_ble_eq_true rfl) (fun p e s m below meth c A ls hx hb hr hlk hml hts hown hin hA hP hK hD hS hN hE hl => ?_)
  have hown : s.vm.findClass RX6 = some m.cls := hown
  have hl : lv_has ls 6 [(0, .ref h0), (1, .ref a), (2, .int (nI sz))] := hl
  refine lv_iconst (v := 0) hx hb dX6_scan_0 (by decide) ?_
  refine lv_istore_n (lv' := [(3, .int 0), (0, .ref h0), (1, .ref a), (2, .int (nI sz))]) hx hb dX6_scan_1 rfl hl (by decide) rfl (fun ls hl => ?_)
  refine lv_iconst (v := 0) hx hb dX6_scan_2 (by decide) ?_
  refine lv_istore (lv' := [(4, .int 0), (3, .int 0), (0, .ref h0), (1, .ref a), (2, .int (nI sz))]) hx hb dX6_scan_3 hl (by decide) rfl (fun ls hl => ?_)
  refine gy_loop0 (I := fun (x9 : Nat × Nat × (Nat → Nat) × (Nat → Int32) × (Nat → Int32) × (Nat → Nat)) H locs ls => (x9.1 ≤ 501) ∧ (x9.2.1 ≤ sz) ∧ (gRdI x9.2.2.1 x9.2.2.2.2.1 x9.2.2.2.1) ∧ (gTi f sz x9.2.2.1 x9.2.2.2.1 x9.2.2.2.2.1 x9.2.2.2.2.2 x9.1 x9.2.1) ∧ va_P D vwCl [(h0, .inr (6, [v0, v1, v2, v3, .ref k4, .ref k5, .ref k6, v7, v8, v9, v10, v11])), (k4, .inl (cI, 501, .inl (fun j => nI (x9.2.2.1 j)))), (k5, .inl (cI, 501, .inl x9.2.2.2.1)), (k6, .inl (cI, 501, .inl x9.2.2.2.2.1)), (a, .inl (cB, 4000, .inl f))] H ∧ va_D A [(h0, .inr (6, [v0, v1, v2, v3, .ref k4, .ref k5, .ref k6, v7, v8, v9, v10, v11])), (k4, .inl (cI, 501, .inl (fun j => nI (x9.2.2.1 j)))), (k5, .inl (cI, 501, .inl x9.2.2.2.1)), (k6, .inl (cI, 501, .inl x9.2.2.2.2.1)), (a, .inl (cB, 4000, .inl f))] ∧ va_S A s.heap H locs ∧ lv_has ls 6 [(4, .int (nI x9.1)), (3, .int (nI x9.2.1)), (0, .ref h0), (1, .ref a), (2, .int (nI sz))]) (μ := fun (x9 : Nat × Nat × (Nat → Nat) × (Nat → Int32) × (Nat → Int32) × (Nat → Nat)) => 501 - x9.1) (fun x9 H locs ls hI ih5 => ?_) (0, 0, Kd, sf, nf, (fun _ => 0)) ⟨(by show 0 ≤ 501; exact Nat.le_of_ble_eq_true rfl), (by show 0 ≤ sz; exact Nat.zero_le _), hR, ⟨rfl, rfl, fun t h => absurd h (Nat.not_lt_zero t)⟩, hP, hD, hS, lv_sub hl [0, 1, 2, 3, 4] rfl⟩
  obtain ⟨n, fr, Kd1, sf1, nf1, E1⟩ := x9
  obtain ⟨hi5_0, hi5_1, hi5_2, hi5_3, hP, hD, hS, hl⟩ := hI
  have hi5_0 : n ≤ 501 := hi5_0
  have hi5_1 : fr ≤ sz := hi5_1
  have hi5_2 : gRdI Kd1 nf1 sf1 := hi5_2
  have hi5_3 : gTi f sz Kd1 sf1 nf1 E1 n fr := hi5_3
  have hP : va_P D vwCl [(h0, .inr (6, [v0, v1, v2, v3, .ref k4, .ref k5, .ref k6, v7, v8, v9, v10, v11])), (k4, .inl (cI, 501, .inl (fun j => nI (Kd1 j)))), (k5, .inl (cI, 501, .inl sf1)), (k6, .inl (cI, 501, .inl nf1)), (a, .inl (cB, 4000, .inl f))] H := hP
  have hD : va_D A [(h0, .inr (6, [v0, v1, v2, v3, .ref k4, .ref k5, .ref k6, v7, v8, v9, v10, v11])), (k4, .inl (cI, 501, .inl (fun j => nI (Kd1 j)))), (k5, .inl (cI, 501, .inl sf1)), (k6, .inl (cI, 501, .inl nf1)), (a, .inl (cB, 4000, .inl f))] := hD
  have hS : va_S A s.heap H locs := hS
  have hl : lv_has ls 6 [(4, .int (nI n)), (3, .int (nI fr)), (0, .ref h0), (1, .ref a), (2, .int (nI sz))] := hl
  refine lv_iload hx hb dX6_scan_5 (lv_at hl 0 rfl) ?_
  refine lv_sipush (v := 500) hx hb dX6_scan_7 (by decide) ?_
  refine gy_gt (a := n) (b := 500) (tgt := 117) hx hb (by omega) (by omega) dX6_scan_10 (by decide) (fun c_1 => ?_) (fun c_1 => ?_)
  · exact gx_vret (w' := [(h0, .inr (6, [v0, v1, v2, v3, .ref k4, .ref k5, .ref k6, v7, v8, v9, v10, v11])), (k4, .inl (cI, 501, .inl (fun j => nI (Kd1 j)))), (k5, .inl (cI, 501, .inl sf1)), (k6, .inl (cI, 501, .inl nf1)), (a, .inl (cB, 4000, .inl f))]) hx hb hr hlk hK hP hD hS (Nat.le_of_ble_eq_true rfl) (Nat.le_of_ble_eq_true rfl) dX6_scan_117 ⟨Kd1, sf1, nf1, E1, hi5_2, (gTS_f hi5_3 (by omega)), rfl⟩
  · refine lv_aload_n hx hb dX6_scan_13 rfl (lv_at hl 3 rfl) ?_
    refine lv_iload_n hx hb dX6_scan_14 rfl (lv_at hl 4 rfl) ?_
    refine lv_iload_n hx hb dX6_scan_15 rfl (lv_at hl 1 rfl) ?_
    refine gx_goi (wc := [(a, .inl (cB, 4000, .inl f))]) (wr := [(h0, .inr (6, [v0, v1, v2, v3, .ref k4, .ref k5, .ref k6, v7, v8, v9, v10, v11])), (k4, .inl (cI, 501, .inl (fun j => nI (Kd1 j)))), (k5, .inl (cI, 501, .inl sf1)), (k6, .inl (cI, 501, .inl nf1))]) (va_runS (As := [.ref a, .int (nI sz), .int (nI fr)]) (rest := []) ⟨hx, hb, hml, hown, hts⟩ (x_blanks l D cI cB cZ a f sz fr (by omega) (by omega) _) (va_cwS 3 hts gP_x_scan__x_blanks rfl rfl rfl (by decide +kernel) ⟨Nat.le_of_ble_eq_true rfl, Nat.le_of_ble_eq_true rfl⟩) (gx_preS hK gN.nil hP hD [4] rfl rfl) rfl rfl hl.1 rfl (lv_room (Nat.le_of_ble_eq_true rfl)) dX6_scan_16 ⟨Nat.le_of_ble_eq_true rfl, Nat.le_of_ble_eq_true rfl⟩) hP hD hS hA [4] [0, 1, 2, 3] rfl rfl rfl (by decide) (fun r1 w1 H locs hp hP hD hS => ?_)
    obtain ⟨fr1, hq_2, hq_3, hx16_0, h9, rfl⟩ := hp
    have h9 := h9.symm
    subst h9
    have hq_2 : fr ≤ fr1 := hq_2
    have hq_3 : fr1 ≤ sz := hq_3
    have hx16_0 : gBb f sz fr fr1 := hx16_0
    have hbb := hx16_0
    refine lv_istore_n (lv' := [(3, .int (nI fr1)), (4, .int (nI n)), (0, .ref h0), (1, .ref a), (2, .int (nI sz))]) hx hb dX6_scan_19 rfl hl (by decide) rfl (fun ls hl => ?_)
    refine lv_aload_n hx hb dX6_scan_20 rfl (lv_at hl 2 rfl) ?_
    refine va_get (D := D) (ci := 6) (v := .ref k5) (C := RX6) (T := TX6) (N := 12) hx hb hts (fun _ h => List.mem_cons_of_mem _ (List.mem_append_left _ (List.mem_append_right _ h))) hown hK hP 0 rfl rfl 5 (by decide) (hts (.fieldLink RX6 26 "LitmusHall$Reader" "starts" "[I") (by decide +kernel)) (fun _ h9 => h9) rfl dX6_scan_21 ?_
    refine lv_iload hx hb dX6_scan_24 (lv_at hl 1 rfl) ?_
    refine lv_iload_n hx hb dX6_scan_26 rfl (lv_at hl 0 rfl) ?_
    refine gy_ist (i := n) hx hb hK hP hD hS 2 rfl (by omega) (by omega) dX6_scan_27 (fun H locs hP hD hS => ?_)
    have hP : va_P D vwCl [(h0, .inr (6, [v0, v1, v2, v3, .ref k4, .ref k5, .ref k6, v7, v8, v9, v10, v11])), (k4, .inl (cI, 501, .inl (fun j => nI (Kd1 j)))), (k5, .inl (cI, 501, .inl (upd sf1 n (nI fr1)))), (k6, .inl (cI, 501, .inl nf1)), (a, .inl (cB, 4000, .inl f))] H := hP
    have hD : va_D A [(h0, .inr (6, [v0, v1, v2, v3, .ref k4, .ref k5, .ref k6, v7, v8, v9, v10, v11])), (k4, .inl (cI, 501, .inl (fun j => nI (Kd1 j)))), (k5, .inl (cI, 501, .inl (upd sf1 n (nI fr1)))), (k6, .inl (cI, 501, .inl nf1)), (a, .inl (cB, 4000, .inl f))] := hD
    refine lv_iload_n hx hb dX6_scan_28 rfl (lv_at hl 0 rfl) ?_
    refine lv_iload_n hx hb dX6_scan_29 rfl (lv_at hl 4 rfl) ?_
    refine gy_lt (a := fr1) (b := sz) (tgt := 43) hx hb (by omega) (by omega) dX6_scan_30 (by decide) (fun c_4 => ?_) (fun c_4 => ?_)
    · refine lv_aload_n hx hb dX6_scan_43 rfl (lv_at hl 3 rfl) ?_
      refine lv_iload_n hx hb dX6_scan_44 rfl (lv_at hl 4 rfl) ?_
      refine lv_iload_n hx hb dX6_scan_45 rfl (lv_at hl 0 rfl) ?_
      refine gx_goi (wc := [(a, .inl (cB, 4000, .inl f))]) (wr := [(h0, .inr (6, [v0, v1, v2, v3, .ref k4, .ref k5, .ref k6, v7, v8, v9, v10, v11])), (k4, .inl (cI, 501, .inl (fun j => nI (Kd1 j)))), (k5, .inl (cI, 501, .inl (upd sf1 n (nI fr1)))), (k6, .inl (cI, 501, .inl nf1))]) (va_runS (As := [.ref a, .int (nI sz), .int (nI fr1)]) (rest := []) ⟨hx, hb, hml, hown, hts⟩ (x_run l D cI cB cZ a f sz fr1 (by omega) (by omega) _) (va_cwS 3 hts gP_x_scan__x_run rfl rfl rfl (by decide +kernel) ⟨Nat.le_of_ble_eq_true rfl, Nat.le_of_ble_eq_true rfl⟩) (gx_preS hK gN.nil hP hD [4] rfl rfl) rfl rfl hl.1 rfl (lv_room (Nat.le_of_ble_eq_true rfl)) dX6_scan_46 ⟨Nat.le_of_ble_eq_true rfl, Nat.le_of_ble_eq_true rfl⟩) hP hD hS hA [4] [0, 1, 2, 3] rfl rfl rfl (by decide) (fun r1 w1 H locs hp hP hD hS => ?_)
      obtain ⟨bh, hq_5, hq_6, hq_7, hx46_0, h9, rfl⟩ := hp
      have h9 := h9.symm
      subst h9
      have hq_5 : fr1 < bh := hq_5
      have hq_6 : bh ≤ sz := hq_6
      have hq_7 : (¬ f fr1 < 48 ∧ ¬ 57 < f fr1) → ∀ j, fr1 ≤ j → j < bh → (¬ f j < 48 ∧ ¬ 57 < f j) := hq_7
      have hx46_0 : gBr f sz fr1 bh := hx46_0
      have hdg := hq_7
      have hbr := hx46_0
      refine lv_istore (lv' := [(5, .int (nI bh)), (3, .int (nI fr1)), (4, .int (nI n)), (0, .ref h0), (1, .ref a), (2, .int (nI sz))]) hx hb dX6_scan_49 hl (by decide) rfl (fun ls hl => ?_)
      refine lv_aload_n hx hb dX6_scan_51 rfl (lv_at hl 3 rfl) ?_
      refine va_get (D := D) (ci := 6) (v := .ref k4) (C := RX6) (T := TX6) (N := 12) hx hb hts (fun _ h => List.mem_cons_of_mem _ (List.mem_append_left _ (List.mem_append_right _ h))) hown hK hP 0 rfl rfl 4 (by decide) (hts (.fieldLink RX6 22 "LitmusHall$Reader" "kinds" "[I") (by decide +kernel)) (fun _ h9 => h9) rfl dX6_scan_52 ?_
      refine lv_iload hx hb dX6_scan_55 (lv_at hl 2 rfl) ?_
      refine lv_aload_n hx hb dX6_scan_57 rfl (lv_at hl 4 rfl) ?_
      refine lv_iload_n hx hb dX6_scan_58 rfl (lv_at hl 1 rfl) ?_
      refine lv_iload hx hb dX6_scan_59 (lv_at hl 0 rfl) ?_
      refine gx_goi (wc := [(a, .inl (cB, 4000, .inl f))]) (wr := [(h0, .inr (6, [v0, v1, v2, v3, .ref k4, .ref k5, .ref k6, v7, v8, v9, v10, v11])), (k4, .inl (cI, 501, .inl (fun j => nI (Kd1 j)))), (k5, .inl (cI, 501, .inl (upd sf1 n (nI fr1)))), (k6, .inl (cI, 501, .inl nf1))]) (va_runS (As := [.ref a, .int (nI fr1), .int (nI bh)]) (rest := [.int (nI n), .ref k4]) ⟨hx, hb, hml, hown, hts⟩ (e_kindOf l D cI cB cZ K a f fr1 bh (by omega) (by omega) _) (va_cwS 3 hts gP_x_scan__e_kindOf rfl rfl rfl (by decide +kernel) ⟨Nat.le_of_ble_eq_true rfl, Nat.le_of_ble_eq_true rfl⟩) (ge_preS hE hS hA hK gN.nil hP hD [4] rfl rfl) rfl rfl hl.1 rfl (lv_room (Nat.le_of_ble_eq_true rfl)) dX6_scan_61 ⟨Nat.le_of_ble_eq_true rfl, Nat.le_of_ble_eq_true rfl⟩) hP hD hS hA [4] [0, 1, 2, 3] rfl rfl rfl (by decide) (fun r1 w1 H locs hp hP hD hS => ?_)
      obtain ⟨q, hq_8, h9, rfl⟩ := hp
      have h9 := h9.symm
      subst h9
      have hq_8 : gKd f fr1 bh q := hq_8
      have hkd := hq_8
      have hq22 := gKd_22 hkd
      refine gy_istN (i := n) (v := q) hx hb hK hP hD hS 1 rfl (by omega) (by omega) dX6_scan_64 (fun H locs hP hD hS => ?_)
      have hP : va_P D vwCl [(h0, .inr (6, [v0, v1, v2, v3, .ref k4, .ref k5, .ref k6, v7, v8, v9, v10, v11])), (k4, .inl (cI, 501, .inl (fun j => nI ((updN Kd1 n q) j)))), (k5, .inl (cI, 501, .inl (upd sf1 n (nI fr1)))), (k6, .inl (cI, 501, .inl nf1)), (a, .inl (cB, 4000, .inl f))] H := hP
      have hD : va_D A [(h0, .inr (6, [v0, v1, v2, v3, .ref k4, .ref k5, .ref k6, v7, v8, v9, v10, v11])), (k4, .inl (cI, 501, .inl (fun j => nI ((updN Kd1 n q) j)))), (k5, .inl (cI, 501, .inl (upd sf1 n (nI fr1)))), (k6, .inl (cI, 501, .inl nf1)), (a, .inl (cB, 4000, .inl f))] := hD
      refine lv_aload_n hx hb dX6_scan_65 rfl (lv_at hl 3 rfl) ?_
      refine va_get (D := D) (ci := 6) (v := .ref k4) (C := RX6) (T := TX6) (N := 12) hx hb hts (fun _ h => List.mem_cons_of_mem _ (List.mem_append_left _ (List.mem_append_right _ h))) hown hK hP 0 rfl rfl 4 (by decide) (hts (.fieldLink RX6 22 "LitmusHall$Reader" "kinds" "[I") (by decide +kernel)) (fun _ h9 => h9) rfl dX6_scan_66 ?_
      refine lv_iload hx hb dX6_scan_69 (lv_at hl 2 rfl) ?_
      refine gy_ild (i := n) hx hb hK hP 1 rfl (by omega) (by omega) dX6_scan_71 ?_
      refine gx_top (y := nI ((updN Kd1 n q) n)) rfl ?_
      refine gx_top (y := nI q) (congrArg nI updN_s) ?_
      refine lv_bipush (v := 22) hx hb dX6_scan_72 (by decide) ?_
      refine gy_ne (a := q) (b := 22) (tgt := 78) hx hb (by omega) (by omega) dX6_scan_74 (by decide) (fun c_9 => ?_) (fun c_9 => ?_)
      · refine lv_aload_n hx hb dX6_scan_78 rfl (lv_at hl 3 rfl) ?_
        refine va_get (D := D) (ci := 6) (v := .ref k6) (C := RX6) (T := TX6) (N := 12) hx hb hts (fun _ h => List.mem_cons_of_mem _ (List.mem_append_left _ (List.mem_append_right _ h))) hown hK hP 0 rfl rfl 6 (by decide) (hts (.fieldLink RX6 29 "LitmusHall$Reader" "numbers" "[I") (by decide +kernel)) (fun _ h9 => h9) rfl dX6_scan_79 ?_
        refine lv_iload hx hb dX6_scan_82 (lv_at hl 2 rfl) ?_
        refine lv_aload_n hx hb dX6_scan_84 rfl (lv_at hl 3 rfl) ?_
        refine va_get (D := D) (ci := 6) (v := .ref k4) (C := RX6) (T := TX6) (N := 12) hx hb hts (fun _ h => List.mem_cons_of_mem _ (List.mem_append_left _ (List.mem_append_right _ h))) hown hK hP 0 rfl rfl 4 (by decide) (hts (.fieldLink RX6 22 "LitmusHall$Reader" "kinds" "[I") (by decide +kernel)) (fun _ h9 => h9) rfl dX6_scan_85 ?_
        refine lv_iload hx hb dX6_scan_88 (lv_at hl 2 rfl) ?_
        refine gy_ild (i := n) hx hb hK hP 1 rfl (by omega) (by omega) dX6_scan_90 ?_
        refine gx_top (y := nI ((updN Kd1 n q) n)) rfl ?_
        refine gx_top (y := nI q) (congrArg nI updN_s) ?_
        refine lv_bipush (v := 16) hx hb dX6_scan_91 (by decide) ?_
        refine gy_ne (a := q) (b := 16) (tgt := 106) hx hb (by omega) (by omega) dX6_scan_93 (by decide) (fun c_10 => ?_) (fun c_10 => ?_)
        · refine lv_iconst (v := (-1)) hx hb dX6_scan_106 (by decide) ?_
          refine gy_ist (i := n) hx hb hK hP hD hS 3 rfl (by omega) (by omega) dX6_scan_107 (fun H locs hP hD hS => ?_)
          have hP : va_P D vwCl [(h0, .inr (6, [v0, v1, v2, v3, .ref k4, .ref k5, .ref k6, v7, v8, v9, v10, v11])), (k4, .inl (cI, 501, .inl (fun j => nI ((updN Kd1 n q) j)))), (k5, .inl (cI, 501, .inl (upd sf1 n (nI fr1)))), (k6, .inl (cI, 501, .inl (upd nf1 n (-1)))), (a, .inl (cB, 4000, .inl f))] H := hP
          have hD : va_D A [(h0, .inr (6, [v0, v1, v2, v3, .ref k4, .ref k5, .ref k6, v7, v8, v9, v10, v11])), (k4, .inl (cI, 501, .inl (fun j => nI ((updN Kd1 n q) j)))), (k5, .inl (cI, 501, .inl (upd sf1 n (nI fr1)))), (k6, .inl (cI, 501, .inl (upd nf1 n (-1)))), (a, .inl (cB, 4000, .inl f))] := hD
          refine lv_iload hx hb dX6_scan_108 (lv_at hl 0 rfl) ?_
          refine lv_istore_n (lv' := [(3, .int (nI bh)), (5, .int (nI bh)), (4, .int (nI n)), (0, .ref h0), (1, .ref a), (2, .int (nI sz))]) hx hb dX6_scan_110 rfl hl (by decide) rfl (fun ls hl => ?_)
          refine lv_iinc (v := nI (n + 1)) (lv' := [(4, .int (nI (n + 1))), (3, .int (nI bh)), (5, .int (nI bh)), (0, .ref h0), (1, .ref a), (2, .int (nI sz))]) hx hb dX6_scan_111 hl (k := 2) rfl (nI_add n 1) (by decide) rfl (fun ls hl => ?_)
          refine lv_goto (tgt := 5) hx hb dX6_scan_114 (by decide) ?_
          exact ih5 ((n + 1), bh, (updN Kd1 n q), (upd sf1 n (nI fr1)), (upd nf1 n (-1)), (updN E1 (n + 1) bh)) H locs ls ⟨(by show (n + 1) ≤ 501; omega), (by show bh ≤ sz; omega), (gRdI_s hi5_2 hq22 (by first | exact fun _ => ⟨_, hnum, rfl⟩ | exact fun h => absurd h c_10) (by omega)), (gTi_s hi5_3 (gKd_lt hkd (by omega)) (gT1_t hbb (by omega) hbr hkd (by first | exact fun _ => congrArg nI hnm | exact fun h => absurd h c_10))), hP, hD, hS, lv_sub hl [0, 1, 3, 4, 5] rfl⟩ (by show 501 - (n + 1) < 501 - n; omega)
        · have hqq := gKd_16 hkd c_10
          refine lv_aload_n hx hb dX6_scan_96 rfl (lv_at hl 4 rfl) ?_
          refine lv_iload_n hx hb dX6_scan_97 rfl (lv_at hl 1 rfl) ?_
          refine lv_iload hx hb dX6_scan_98 (lv_at hl 0 rfl) ?_
          refine gx_goi (wc := [(a, .inl (cB, 4000, .inl f))]) (wr := [(h0, .inr (6, [v0, v1, v2, v3, .ref k4, .ref k5, .ref k6, v7, v8, v9, v10, v11])), (k4, .inl (cI, 501, .inl (fun j => nI ((updN Kd1 n q) j)))), (k5, .inl (cI, 501, .inl (upd sf1 n (nI fr1)))), (k6, .inl (cI, 501, .inl nf1))]) (va_runS (As := [.ref a, .int (nI fr1), .int (nI bh)]) (rest := [.int (nI n), .ref k6]) ⟨hx, hb, hml, hown, hts⟩ (x_num l D cI cB cZ a f fr1 bh (by omega) (by omega) (by omega) (hdg hqq.1) _) (va_cwS 3 hts gP_x_scan__x_num rfl rfl rfl (by decide +kernel) ⟨Nat.le_of_ble_eq_true rfl, Nat.le_of_ble_eq_true rfl⟩) (gx_preS hK gN.nil hP hD [4] rfl rfl) rfl rfl hl.1 rfl (lv_room (Nat.le_of_ble_eq_true rfl)) dX6_scan_100 ⟨Nat.le_of_ble_eq_true rfl, Nat.le_of_ble_eq_true rfl⟩) hP hD hS hA [4] [0, 1, 2, 3] rfl rfl rfl (by decide) (fun r1 w1 H locs hp hP hD hS => ?_)
          obtain ⟨e_11, hq_12, hx100_0, h9, rfl⟩ := hp
          have h9 := h9.symm
          subst h9
          have hq_12 : e_11 ≤ 999 := hq_12
          have hx100_0 : e_11 = rNm f fr1 (bh - fr1) := hx100_0
          have hnum := hq_12
          have hnm := hx100_0
          refine lv_goto (tgt := 107) hx hb dX6_scan_103 (by decide) ?_
          refine gy_ist (i := n) hx hb hK hP hD hS 3 rfl (by omega) (by omega) dX6_scan_107 (fun H locs hP hD hS => ?_)
          have hP : va_P D vwCl [(h0, .inr (6, [v0, v1, v2, v3, .ref k4, .ref k5, .ref k6, v7, v8, v9, v10, v11])), (k4, .inl (cI, 501, .inl (fun j => nI ((updN Kd1 n q) j)))), (k5, .inl (cI, 501, .inl (upd sf1 n (nI fr1)))), (k6, .inl (cI, 501, .inl (upd nf1 n (nI e_11)))), (a, .inl (cB, 4000, .inl f))] H := hP
          have hD : va_D A [(h0, .inr (6, [v0, v1, v2, v3, .ref k4, .ref k5, .ref k6, v7, v8, v9, v10, v11])), (k4, .inl (cI, 501, .inl (fun j => nI ((updN Kd1 n q) j)))), (k5, .inl (cI, 501, .inl (upd sf1 n (nI fr1)))), (k6, .inl (cI, 501, .inl (upd nf1 n (nI e_11)))), (a, .inl (cB, 4000, .inl f))] := hD
          refine lv_iload hx hb dX6_scan_108 (lv_at hl 0 rfl) ?_
          refine lv_istore_n (lv' := [(3, .int (nI bh)), (5, .int (nI bh)), (4, .int (nI n)), (0, .ref h0), (1, .ref a), (2, .int (nI sz))]) hx hb dX6_scan_110 rfl hl (by decide) rfl (fun ls hl => ?_)
          refine lv_iinc (v := nI (n + 1)) (lv' := [(4, .int (nI (n + 1))), (3, .int (nI bh)), (5, .int (nI bh)), (0, .ref h0), (1, .ref a), (2, .int (nI sz))]) hx hb dX6_scan_111 hl (k := 2) rfl (nI_add n 1) (by decide) rfl (fun ls hl => ?_)
          refine lv_goto (tgt := 5) hx hb dX6_scan_114 (by decide) ?_
          exact ih5 ((n + 1), bh, (updN Kd1 n q), (upd sf1 n (nI fr1)), (upd nf1 n (nI e_11)), (updN E1 (n + 1) bh)) H locs ls ⟨(by show (n + 1) ≤ 501; omega), (by show bh ≤ sz; omega), (gRdI_s hi5_2 hq22 (by first | exact fun _ => ⟨_, hnum, rfl⟩ | exact fun h => absurd h hq_12) (by omega)), (gTi_s hi5_3 (gKd_lt hkd (by omega)) (gT1_t hbb (by omega) hbr hkd (by first | exact fun _ => congrArg nI hnm | exact fun h => absurd h hq_12))), hP, hD, hS, lv_sub hl [0, 1, 3, 4, 5] rfl⟩ (by show 501 - (n + 1) < 501 - n; omega)
      · exact gx_vret (w' := [(h0, .inr (6, [v0, v1, v2, v3, .ref k4, .ref k5, .ref k6, v7, v8, v9, v10, v11])), (k4, .inl (cI, 501, .inl (fun j => nI ((updN Kd1 n q) j)))), (k5, .inl (cI, 501, .inl (upd sf1 n (nI fr1)))), (k6, .inl (cI, 501, .inl nf1)), (a, .inl (cB, 4000, .inl f))]) hx hb hr hlk hK hP hD hS (Nat.le_of_ble_eq_true rfl) (Nat.le_of_ble_eq_true rfl) dX6_scan_77 ⟨(updN Kd1 n q), (upd sf1 n (nI fr1)), nf1, (updN E1 (n + 1) bh), (gRdI_k hi5_2 hq22 (by omega) (by omega)), (gTS_e hi5_3 (by omega) (gT1_t hbb (by omega) hbr hkd (fun h => absurd h (by omega)))), rfl⟩
    · refine lv_aload_n hx hb dX6_scan_33 rfl (lv_at hl 2 rfl) ?_
      refine va_get (D := D) (ci := 6) (v := .ref k4) (C := RX6) (T := TX6) (N := 12) hx hb hts (fun _ h => List.mem_cons_of_mem _ (List.mem_append_left _ (List.mem_append_right _ h))) hown hK hP 0 rfl rfl 4 (by decide) (hts (.fieldLink RX6 22 "LitmusHall$Reader" "kinds" "[I") (by decide +kernel)) (fun _ h9 => h9) rfl dX6_scan_34 ?_
      refine lv_iload hx hb dX6_scan_37 (lv_at hl 1 rfl) ?_
      refine lv_bipush (v := 21) hx hb dX6_scan_39 (by decide) ?_
      refine gy_istN (i := n) (v := 21) hx hb hK hP hD hS 1 rfl (by omega) (by omega) dX6_scan_41 (fun H locs hP hD hS => ?_)
      have hP : va_P D vwCl [(h0, .inr (6, [v0, v1, v2, v3, .ref k4, .ref k5, .ref k6, v7, v8, v9, v10, v11])), (k4, .inl (cI, 501, .inl (fun j => nI ((updN Kd1 n 21) j)))), (k5, .inl (cI, 501, .inl (upd sf1 n (nI fr1)))), (k6, .inl (cI, 501, .inl nf1)), (a, .inl (cB, 4000, .inl f))] H := hP
      have hD : va_D A [(h0, .inr (6, [v0, v1, v2, v3, .ref k4, .ref k5, .ref k6, v7, v8, v9, v10, v11])), (k4, .inl (cI, 501, .inl (fun j => nI ((updN Kd1 n 21) j)))), (k5, .inl (cI, 501, .inl (upd sf1 n (nI fr1)))), (k6, .inl (cI, 501, .inl nf1)), (a, .inl (cB, 4000, .inl f))] := hD
      exact gx_vret (w' := [(h0, .inr (6, [v0, v1, v2, v3, .ref k4, .ref k5, .ref k6, v7, v8, v9, v10, v11])), (k4, .inl (cI, 501, .inl (fun j => nI ((updN Kd1 n 21) j)))), (k5, .inl (cI, 501, .inl (upd sf1 n (nI fr1)))), (k6, .inl (cI, 501, .inl nf1)), (a, .inl (cB, 4000, .inl f))]) hx hb hr hlk hK hP hD hS (Nat.le_of_ble_eq_true rfl) (Nat.le_of_ble_eq_true rfl) dX6_scan_42 ⟨(updN Kd1 n 21), (upd sf1 n (nI fr1)), nf1, (updN E1 (n + 1) 0), (gRdI_k hi5_2 (by omega) (by omega) (by omega)), (gTS_e hi5_3 (by decide) (gT1_e hbb (by omega))), rfl⟩
