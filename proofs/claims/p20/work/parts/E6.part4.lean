
def wsP_x_partR : List Cond := .code yX6_readPart cX6_readPart 5 (some .boolean) :: (([.methodLink RX6 165 yX6_takeReg, .instanceMethod yX6_takeReg, .selects RX6 yX6_takeReg yX6_takeReg, .initialized RX6, .fieldLink RX6 12 "LitmusHall$Reader" "draft" "LLitmusHall$Program;", .fieldLink RX6 168 "LitmusHall$Program" "parts" "[I", .fieldLink RX6 122 "LitmusHall$Reader" "valueReg" "I"] ++ wsX60 ++ wsX40) ++ (wsP_x_takeReg ++ []))
theorem gW_x_partR : wsP_x_partR.all goodWord = true := by unfold wsP_x_partR; exact gw_mk (by decide +kernel) (gw_app gW_x_takeReg rfl)
set_option maxRecDepth 20000 in
theorem gP_x_partR__x_takeReg : GoodIn wsP_x_partR (wsV RX6 165 RX6 yX6_takeReg wsP_x_takeReg) := gw_in (pre := [.methodLink RX6 165 yX6_takeReg, .instanceMethod yX6_takeReg, .selects RX6 yX6_takeReg yX6_takeReg, .initialized RX6]) (by decide +kernel) (fun _ h => List.mem_cons_of_mem _ (List.mem_append_right _ (List.mem_append_left _ h))) gW_x_takeReg
set_option maxHeartbeats 4000000 in
set_option maxRecDepth 100000 in
theorem x_partR (l : Launch) (D : va_G) (cI cB cZ : ClassId) (h0 : Nat) (d0 : Nat) (e3 : Nat) (k4 : Nat) (k5 : Nat) (k6 : Nat) (v7 : Value) (v9 : Value) (w0 : Value) (w1 : Value) (w2 : Value) (pv : Int32) (fv : Int32) (Kd : Nat → Nat) (sf : Nat → Int32) (nf : Nat → Int32) (t : Nat) (lp : Int32) (vr : Int32) (vl : Int32) (pf : Nat → Int32) (n : Nat) (ht : t ≤ 500) (hR : gRdI Kd nf sf) (hn : n + 8 ≤ 192) : gMi l yX6_readPart wsP_x_partR ({ frames := 3, cells := 0, slots := 0, locals := 63 }) D cI cB cZ [] [.ref h0, .int (nI n), .int 82] [(h0, .inr (6, [.ref d0, .int pv, .int fv, .int lp, .ref k4, .ref k5, .ref k6, v7, .int (nI t), v9, .int vr, .int vl])), (k4, .inl (cI, 501, .inl (fun j => nI (Kd j)))), (k5, .inl (cI, 501, .inl sf)), (k6, .inl (cI, 501, .inl nf)), (d0, .inr (4, [w0, w1, w2, .ref e3])), (e3, .inl (cI, 192, .inl pf))] (fun r9 w9 => ∃ z : Int32, ∃ pv9 : Int32, ∃ fv9 : Int32, ∃ t9 : Nat, ∃ vr9 : Int32, ((z = 0 ∧ ¬ fv9 = 0) ∨ (z = 1 ∧ fv9 = fv ∧ t < t9 ∧ (∃ r, r < 3 ∧ vr9 = nI r))) ∧ (t ≤ t9 ∧ t9 ≤ 500) ∧ (rOut (rPt Kd 0 t) t9 (sf t9) z fv pv fv9 pv9) ∧ (¬ z = 0 → vr9 = nI (Kd t - 13)) ∧ r9 = z ∧ w9 = [(h0, .inr (6, [.ref d0, .int pv9, .int fv9, .int lp, .ref k4, .ref k5, .ref k6, v7, .int (nI t9), v9, .int vr9, .int vl])), (k4, .inl (cI, 501, .inl (fun j => nI (Kd j)))), (k5, .inl (cI, 501, .inl sf)), (k6, .inl (cI, 501, .inl nf)), (d0, .inr (4, [w0, w1, w2, .ref e3])), (e3, .inl (cI, 192, .inl (upd pf (n + 2) vr9)))]) := by
  refine gMi.of (cc := cX6_readPart) (maxL := 5) (ret := (some .boolean)) (by decide) rfl (Nat.le_of_ble_eq_true rfl) (fun p e s m below meth c A ls hx hb hr hlk hml hts hown hin hA hP hK hD hS hN hl => ?_)
  have hown : s.vm.findClass RX6 = some m.cls := hown
  have hl : lv_has ls 5 [(0, .ref h0), (1, .int (nI n)), (2, .int 82)] := hl
  refine lv_iload_n hx hb dX6_readPart_0 rfl (lv_at hl 2 rfl) ?_
  refine lv_bipush (v := 82) hx hb dX6_readPart_1 (by decide) ?_
  refine lv_icmp_ne (tgt := 28) hx hb dX6_readPart_3 (by decide) (fun c9 => absurd (by decide) c9) (fun _ => ?_)
  refine lv_aload_n hx hb dX6_readPart_6 rfl (lv_at hl 0 rfl) ?_
  refine gx_goi (wc := [(h0, .inr (6, [.ref d0, .int pv, .int fv, .int lp, .ref k4, .ref k5, .ref k6, v7, .int (nI t), v9, .int vr, .int vl])), (k4, .inl (cI, 501, .inl (fun j => nI (Kd j)))), (k5, .inl (cI, 501, .inl sf)), (k6, .inl (cI, 501, .inl nf))]) (wr := [(d0, .inr (4, [w0, w1, w2, .ref e3])), (e3, .inl (cI, 192, .inl pf))]) (va_runV (As := []) (rest := []) ⟨hx, hb, hml, hown, hts⟩ (x_takeReg l D cI cB cZ h0 k4 k5 k6 (.ref d0) (.int lp) (v7) (v9) (.int vl) pv fv Kd sf nf t vr (by omega) hR _) (cwV 0 hts gP_x_partR__x_takeReg rfl rfl rfl (by decide +kernel) ⟨Nat.le_of_ble_eq_true rfl, Nat.le_of_ble_eq_true rfl⟩) (gx_preV (ci := 6) (q0 := 0) hK gN.nil hP hD [0, 1, 2, 3] rfl rfl rfl rfl) rfl rfl hl.1 rfl (lv_room (Nat.le_of_ble_eq_true rfl)) dX6_readPart_7 ⟨Nat.le_of_ble_eq_true rfl, Nat.le_of_ble_eq_true rfl⟩) hP hD hS hA [0, 1, 2, 3] [4, 5] rfl rfl rfl (by decide) (fun r1 w1 H locs hp hP hD hS => ?_)
  obtain ⟨e_1, e_2, e_3, e_4, e_5, hq_6, hq_7, hx7_0, hx7_1, h9, rfl⟩ := hp
  have h9 := h9.symm
  subst h9
  have hq_6 : (e_1 = 0 ∧ ¬ e_3 = 0) ∨ (e_1 = 1 ∧ e_3 = fv ∧ t < e_4 ∧ (∃ r, r < 3 ∧ e_5 = nI r)) := hq_6
  have hq_7 : t ≤ e_4 ∧ e_4 ≤ 500 := hq_7
  have hx7_0 : rOut (rReg Kd t) e_4 (sf e_4) e_1 fv pv e_3 e_2 := hx7_0
  have hx7_1 : ¬ e_1 = 0 → e_5 = nI (Kd t - 13) := hx7_1
  have hpz := hq_6
  have hpt := hq_7
  refine lv_istore_n (lv' := [(3, .int e_1), (0, .ref h0), (1, .int (nI n)), (2, .int 82)]) hx hb dX6_readPart_10 rfl hl (by decide) rfl (fun ls hl => ?_)
  refine lv_aload_n hx hb dX6_readPart_11 rfl (lv_at hl 1 rfl) ?_
  refine va_get (D := D) (ci := 6) (v := .ref d0) (C := RX6) (T := TX6) (N := 12) hx hb hts (fun _ h => List.mem_cons_of_mem _ (List.mem_append_left _ (List.mem_append_left _ (List.mem_append_right _ h)))) hown hK hP 2 rfl rfl 0 (by decide) (hts (.fieldLink RX6 12 "LitmusHall$Reader" "draft" "LLitmusHall$Program;") (by decide +kernel)) (fun _ h9 => h9) rfl dX6_readPart_12 ?_
  refine va_get (D := D) (ci := 4) (v := .ref e3) (C := RX4) (T := TX4) (N := 4) hx hb hts (fun _ h => List.mem_cons_of_mem _ (List.mem_append_left _ (List.mem_append_right _ h))) hown hK hP 0 rfl rfl 3 (by decide) (hts (.fieldLink RX6 168 "LitmusHall$Program" "parts" "[I") (by decide +kernel)) (fun _ h9 => h9) rfl dX6_readPart_15 ?_
  refine lv_iload_n hx hb dX6_readPart_18 rfl (lv_at hl 2 rfl) ?_
  refine lv_iconst (v := 2) hx hb dX6_readPart_19 (by decide) ?_
  refine lv_iadd hx hb dX6_readPart_20 ?_
  refine gx_top (y := nI (n + 2)) (nI_add n 2) ?_
  refine lv_aload_n hx hb dX6_readPart_21 rfl (lv_at hl 1 rfl) ?_
  refine va_get (D := D) (ci := 6) (v := .int e_5) (C := RX6) (T := TX6) (N := 12) hx hb hts (fun _ h => List.mem_cons_of_mem _ (List.mem_append_left _ (List.mem_append_left _ (List.mem_append_right _ h)))) hown hK hP 2 rfl rfl 10 (by decide) (hts (.fieldLink RX6 122 "LitmusHall$Reader" "valueReg" "I") (by decide +kernel)) (fun _ h9 => h9) rfl dX6_readPart_22 ?_
  refine gy_ist (i := (n + 2)) hx hb hK hP hD hS 1 rfl (by omega) (by omega) dX6_readPart_25 (fun H locs hP hD hS => ?_)
  have hP : va_P D vwCl [(d0, .inr (4, [w0, w1, w2, .ref e3])), (e3, .inl (cI, 192, .inl (upd pf (n + 2) e_5))), (h0, .inr (6, [.ref d0, .int e_2, .int e_3, .int lp, .ref k4, .ref k5, .ref k6, v7, .int (nI e_4), v9, .int e_5, .int vl])), (k4, .inl (cI, 501, .inl (fun j => nI (Kd j)))), (k5, .inl (cI, 501, .inl sf)), (k6, .inl (cI, 501, .inl nf))] H := hP
  have hD : va_D A [(d0, .inr (4, [w0, w1, w2, .ref e3])), (e3, .inl (cI, 192, .inl (upd pf (n + 2) e_5))), (h0, .inr (6, [.ref d0, .int e_2, .int e_3, .int lp, .ref k4, .ref k5, .ref k6, v7, .int (nI e_4), v9, .int e_5, .int vl])), (k4, .inl (cI, 501, .inl (fun j => nI (Kd j)))), (k5, .inl (cI, 501, .inl sf)), (k6, .inl (cI, 501, .inl nf))] := hD
  refine lv_iload_n hx hb dX6_readPart_26 rfl (lv_at hl 0 rfl) ?_
  have hP := hP.sub (ws' := [(h0, .inr (6, [.ref d0, .int e_2, .int e_3, .int lp, .ref k4, .ref k5, .ref k6, v7, .int (nI e_4), v9, .int e_5, .int vl])), (k4, .inl (cI, 501, .inl (fun j => nI (Kd j)))), (k5, .inl (cI, 501, .inl sf)), (k6, .inl (cI, 501, .inl nf)), (d0, .inr (4, [w0, w1, w2, .ref e3])), (e3, .inl (cI, 192, .inl (upd pf (n + 2) e_5)))]) [2, 3, 4, 5, 0, 1] rfl
  have hD := hD.sub (ws' := [(h0, .inr (6, [.ref d0, .int e_2, .int e_3, .int lp, .ref k4, .ref k5, .ref k6, v7, .int (nI e_4), v9, .int e_5, .int vl])), (k4, .inl (cI, 501, .inl (fun j => nI (Kd j)))), (k5, .inl (cI, 501, .inl sf)), (k6, .inl (cI, 501, .inl nf)), (d0, .inr (4, [w0, w1, w2, .ref e3])), (e3, .inl (cI, 192, .inl (upd pf (n + 2) e_5)))]) [2, 3, 4, 5, 0, 1] (by decide) rfl
  exact gx_zret (w' := [(h0, .inr (6, [.ref d0, .int e_2, .int e_3, .int lp, .ref k4, .ref k5, .ref k6, v7, .int (nI e_4), v9, .int e_5, .int vl])), (k4, .inl (cI, 501, .inl (fun j => nI (Kd j)))), (k5, .inl (cI, 501, .inl sf)), (k6, .inl (cI, 501, .inl nf)), (d0, .inr (4, [w0, w1, w2, .ref e3])), (e3, .inl (cI, 192, .inl (upd pf (n + 2) e_5)))]) hx hb hr hlk hK hP hD hS (Nat.le_of_ble_eq_true rfl) (Nat.le_of_ble_eq_true rfl) dX6_readPart_27 (gy_z01 (gTkz hpz)) ⟨e_1, e_2, e_3, e_4, e_5, hpz, hpt, hx7_0, hx7_1, rfl, rfl⟩
def wsP_x_partC : List Cond := .code yX6_readPart cX6_readPart 5 (some .boolean) :: (([.methodLink RX6 105 yX6_takeCell, .instanceMethod yX6_takeCell, .selects RX6 yX6_takeCell yX6_takeCell, .initialized RX6, .fieldLink RX6 12 "LitmusHall$Reader" "draft" "LLitmusHall$Program;", .fieldLink RX6 168 "LitmusHall$Program" "parts" "[I", .fieldLink RX6 108 "LitmusHall$Reader" "value" "I"] ++ wsX60 ++ wsX40) ++ (wsP_x_takeCell ++ []))
theorem gW_x_partC : wsP_x_partC.all goodWord = true := by unfold wsP_x_partC; exact gw_mk (by decide +kernel) (gw_app gW_x_takeCell rfl)
set_option maxRecDepth 20000 in
theorem gP_x_partC__x_takeCell : GoodIn wsP_x_partC (wsV RX6 105 RX6 yX6_takeCell wsP_x_takeCell) := gw_in (pre := [.methodLink RX6 105 yX6_takeCell, .instanceMethod yX6_takeCell, .selects RX6 yX6_takeCell yX6_takeCell, .initialized RX6]) (by decide +kernel) (fun _ h => List.mem_cons_of_mem _ (List.mem_append_right _ (List.mem_append_left _ h))) gW_x_takeCell
set_option maxHeartbeats 4000000 in
set_option maxRecDepth 100000 in
theorem x_partC (l : Launch) (D : va_G) (cI cB cZ : ClassId) (h0 : Nat) (d0 : Nat) (e3 : Nat) (k4 : Nat) (k5 : Nat) (k6 : Nat) (v7 : Value) (v9 : Value) (w0 : Value) (w1 : Value) (w2 : Value) (pv : Int32) (fv : Int32) (Kd : Nat → Nat) (sf : Nat → Int32) (nf : Nat → Int32) (t : Nat) (lp : Int32) (vr : Int32) (vl : Int32) (pf : Nat → Int32) (n : Nat) (ht : t ≤ 500) (hR : gRdI Kd nf sf) (hn : n + 8 ≤ 192) : gMi l yX6_readPart wsP_x_partC ({ frames := 3, cells := 0, slots := 0, locals := 62 }) D cI cB cZ [] [.ref h0, .int (nI n), .int 67] [(h0, .inr (6, [.ref d0, .int pv, .int fv, .int lp, .ref k4, .ref k5, .ref k6, v7, .int (nI t), v9, .int vr, .int vl])), (k4, .inl (cI, 501, .inl (fun j => nI (Kd j)))), (k5, .inl (cI, 501, .inl sf)), (k6, .inl (cI, 501, .inl nf)), (d0, .inr (4, [w0, w1, w2, .ref e3])), (e3, .inl (cI, 192, .inl pf))] (fun r9 w9 => ∃ z : Int32, ∃ pv9 : Int32, ∃ fv9 : Int32, ∃ t9 : Nat, ∃ vl9 : Int32, ∃ lp9 : Int32, ((z = 0 ∧ ¬ fv9 = 0) ∨ (z = 1 ∧ fv9 = fv ∧ t < t9 ∧ (∃ x, x ≤ 999 ∧ vl9 = nI x ∧ (lp9 = (-1) → x < 4)))) ∧ (t ≤ t9 ∧ t9 ≤ 500) ∧ (lp9 = (-1) → lp = (-1)) ∧ (rOut (rPt Kd 1 t) t9 (sf t9) z fv pv fv9 pv9) ∧ (¬ z = 0 → vl9 = nf t ∧ lp9 = rPl sf nf 1 t lp) ∧ r9 = z ∧ w9 = [(h0, .inr (6, [.ref d0, .int pv9, .int fv9, .int lp9, .ref k4, .ref k5, .ref k6, v7, .int (nI t9), v9, .int vr, .int vl9])), (k4, .inl (cI, 501, .inl (fun j => nI (Kd j)))), (k5, .inl (cI, 501, .inl sf)), (k6, .inl (cI, 501, .inl nf)), (d0, .inr (4, [w0, w1, w2, .ref e3])), (e3, .inl (cI, 192, .inl (upd pf (n + 1) vl9)))]) := by
  refine gMi.of (cc := cX6_readPart) (maxL := 5) (ret := (some .boolean)) (by decide) rfl (Nat.le_of_ble_eq_true rfl) (fun p e s m below meth c A ls hx hb hr hlk hml hts hown hin hA hP hK hD hS hN hl => ?_)
  have hown : s.vm.findClass RX6 = some m.cls := hown
  have hl : lv_has ls 5 [(0, .ref h0), (1, .int (nI n)), (2, .int 67)] := hl
  refine lv_iload_n hx hb dX6_readPart_0 rfl (lv_at hl 2 rfl) ?_
  refine lv_bipush (v := 82) hx hb dX6_readPart_1 (by decide) ?_
  refine lv_icmp_ne (tgt := 28) hx hb dX6_readPart_3 (by decide) (fun _ => ?_) (fun c9 => absurd c9 (by decide))
  refine lv_iload_n hx hb dX6_readPart_28 rfl (lv_at hl 2 rfl) ?_
  refine lv_bipush (v := 67) hx hb dX6_readPart_29 (by decide) ?_
  refine lv_icmp_ne (tgt := 56) hx hb dX6_readPart_31 (by decide) (fun c9 => absurd (by decide) c9) (fun _ => ?_)
  refine lv_aload_n hx hb dX6_readPart_34 rfl (lv_at hl 0 rfl) ?_
  refine gx_goi (wc := [(h0, .inr (6, [.ref d0, .int pv, .int fv, .int lp, .ref k4, .ref k5, .ref k6, v7, .int (nI t), v9, .int vr, .int vl])), (k4, .inl (cI, 501, .inl (fun j => nI (Kd j)))), (k5, .inl (cI, 501, .inl sf)), (k6, .inl (cI, 501, .inl nf))]) (wr := [(d0, .inr (4, [w0, w1, w2, .ref e3])), (e3, .inl (cI, 192, .inl pf))]) (va_runV (As := []) (rest := []) ⟨hx, hb, hml, hown, hts⟩ (x_takeCell l D cI cB cZ h0 k4 k5 k6 (.ref d0) (v7) (v9) (.int vr) pv fv Kd sf nf t vl lp (by omega) hR _) (cwV 0 hts gP_x_partC__x_takeCell rfl rfl rfl (by decide +kernel) ⟨Nat.le_of_ble_eq_true rfl, Nat.le_of_ble_eq_true rfl⟩) (gx_preV (ci := 6) (q0 := 0) hK gN.nil hP hD [0, 1, 2, 3] rfl rfl rfl rfl) rfl rfl hl.1 rfl (lv_room (Nat.le_of_ble_eq_true rfl)) dX6_readPart_35 ⟨Nat.le_of_ble_eq_true rfl, Nat.le_of_ble_eq_true rfl⟩) hP hD hS hA [0, 1, 2, 3] [4, 5] rfl rfl rfl (by decide) (fun r1 w1 H locs hp hP hD hS => ?_)
  obtain ⟨e_1, e_2, e_3, e_4, e_5, e_6, hq_7, hq_8, hq_9, hx35_0, hx35_1, h9, rfl⟩ := hp
  have h9 := h9.symm
  subst h9
  have hq_7 : (e_1 = 0 ∧ ¬ e_3 = 0) ∨ (e_1 = 1 ∧ e_3 = fv ∧ t < e_4 ∧ (∃ x, x ≤ 999 ∧ e_5 = nI x ∧ (e_6 = (-1) → x < 4))) := hq_7
  have hq_8 : t ≤ e_4 ∧ e_4 ≤ 500 := hq_8
  have hq_9 : e_6 = (-1) → lp = (-1) := hq_9
  have hx35_0 : rOut (rTake Kd 16 t) e_4 (sf e_4) e_1 fv pv e_3 e_2 := hx35_0
  have hx35_1 : ¬ e_1 = 0 → e_5 = nf t ∧ e_6 = rPl sf nf 1 t lp := hx35_1
  have hpz := hq_7
  have hpt := hq_8
  have hpl := hq_9
  refine lv_istore_n (lv' := [(3, .int e_1), (0, .ref h0), (1, .int (nI n)), (2, .int 67)]) hx hb dX6_readPart_38 rfl hl (by decide) rfl (fun ls hl => ?_)
  refine lv_aload_n hx hb dX6_readPart_39 rfl (lv_at hl 1 rfl) ?_
  refine va_get (D := D) (ci := 6) (v := .ref d0) (C := RX6) (T := TX6) (N := 12) hx hb hts (fun _ h => List.mem_cons_of_mem _ (List.mem_append_left _ (List.mem_append_left _ (List.mem_append_right _ h)))) hown hK hP 2 rfl rfl 0 (by decide) (hts (.fieldLink RX6 12 "LitmusHall$Reader" "draft" "LLitmusHall$Program;") (by decide +kernel)) (fun _ h9 => h9) rfl dX6_readPart_40 ?_
  refine va_get (D := D) (ci := 4) (v := .ref e3) (C := RX4) (T := TX4) (N := 4) hx hb hts (fun _ h => List.mem_cons_of_mem _ (List.mem_append_left _ (List.mem_append_right _ h))) hown hK hP 0 rfl rfl 3 (by decide) (hts (.fieldLink RX6 168 "LitmusHall$Program" "parts" "[I") (by decide +kernel)) (fun _ h9 => h9) rfl dX6_readPart_43 ?_
  refine lv_iload_n hx hb dX6_readPart_46 rfl (lv_at hl 2 rfl) ?_
  refine lv_iconst (v := 1) hx hb dX6_readPart_47 (by decide) ?_
  refine lv_iadd hx hb dX6_readPart_48 ?_
  refine gx_top (y := nI (n + 1)) (nI_add n 1) ?_
  refine lv_aload_n hx hb dX6_readPart_49 rfl (lv_at hl 1 rfl) ?_
  refine va_get (D := D) (ci := 6) (v := .int e_5) (C := RX6) (T := TX6) (N := 12) hx hb hts (fun _ h => List.mem_cons_of_mem _ (List.mem_append_left _ (List.mem_append_left _ (List.mem_append_right _ h)))) hown hK hP 2 rfl rfl 11 (by decide) (hts (.fieldLink RX6 108 "LitmusHall$Reader" "value" "I") (by decide +kernel)) (fun _ h9 => h9) rfl dX6_readPart_50 ?_
  refine gy_ist (i := (n + 1)) hx hb hK hP hD hS 1 rfl (by omega) (by omega) dX6_readPart_53 (fun H locs hP hD hS => ?_)
  have hP : va_P D vwCl [(d0, .inr (4, [w0, w1, w2, .ref e3])), (e3, .inl (cI, 192, .inl (upd pf (n + 1) e_5))), (h0, .inr (6, [.ref d0, .int e_2, .int e_3, .int e_6, .ref k4, .ref k5, .ref k6, v7, .int (nI e_4), v9, .int vr, .int e_5])), (k4, .inl (cI, 501, .inl (fun j => nI (Kd j)))), (k5, .inl (cI, 501, .inl sf)), (k6, .inl (cI, 501, .inl nf))] H := hP
  have hD : va_D A [(d0, .inr (4, [w0, w1, w2, .ref e3])), (e3, .inl (cI, 192, .inl (upd pf (n + 1) e_5))), (h0, .inr (6, [.ref d0, .int e_2, .int e_3, .int e_6, .ref k4, .ref k5, .ref k6, v7, .int (nI e_4), v9, .int vr, .int e_5])), (k4, .inl (cI, 501, .inl (fun j => nI (Kd j)))), (k5, .inl (cI, 501, .inl sf)), (k6, .inl (cI, 501, .inl nf))] := hD
  refine lv_iload_n hx hb dX6_readPart_54 rfl (lv_at hl 0 rfl) ?_
  have hP := hP.sub (ws' := [(h0, .inr (6, [.ref d0, .int e_2, .int e_3, .int e_6, .ref k4, .ref k5, .ref k6, v7, .int (nI e_4), v9, .int vr, .int e_5])), (k4, .inl (cI, 501, .inl (fun j => nI (Kd j)))), (k5, .inl (cI, 501, .inl sf)), (k6, .inl (cI, 501, .inl nf)), (d0, .inr (4, [w0, w1, w2, .ref e3])), (e3, .inl (cI, 192, .inl (upd pf (n + 1) e_5)))]) [2, 3, 4, 5, 0, 1] rfl
  have hD := hD.sub (ws' := [(h0, .inr (6, [.ref d0, .int e_2, .int e_3, .int e_6, .ref k4, .ref k5, .ref k6, v7, .int (nI e_4), v9, .int vr, .int e_5])), (k4, .inl (cI, 501, .inl (fun j => nI (Kd j)))), (k5, .inl (cI, 501, .inl sf)), (k6, .inl (cI, 501, .inl nf)), (d0, .inr (4, [w0, w1, w2, .ref e3])), (e3, .inl (cI, 192, .inl (upd pf (n + 1) e_5)))]) [2, 3, 4, 5, 0, 1] (by decide) rfl
  exact gx_zret (w' := [(h0, .inr (6, [.ref d0, .int e_2, .int e_3, .int e_6, .ref k4, .ref k5, .ref k6, v7, .int (nI e_4), v9, .int vr, .int e_5])), (k4, .inl (cI, 501, .inl (fun j => nI (Kd j)))), (k5, .inl (cI, 501, .inl sf)), (k6, .inl (cI, 501, .inl nf)), (d0, .inr (4, [w0, w1, w2, .ref e3])), (e3, .inl (cI, 192, .inl (upd pf (n + 1) e_5)))]) hx hb hr hlk hK hP hD hS (Nat.le_of_ble_eq_true rfl) (Nat.le_of_ble_eq_true rfl) dX6_readPart_55 (gy_z01 (gTkz hpz)) ⟨e_1, e_2, e_3, e_4, e_5, e_6, hpz, hpt, hpl, hx35_0, hx35_1, rfl, rfl⟩
def wsP_x_partS : List Cond := .code yX6_readPart cX6_readPart 5 (some .boolean) :: (([.methodLink RX6 171 yX6_takeSkip, .instanceMethod yX6_takeSkip, .selects RX6 yX6_takeSkip yX6_takeSkip, .initialized RX6, .fieldLink RX6 12 "LitmusHall$Reader" "draft" "LLitmusHall$Program;", .fieldLink RX6 168 "LitmusHall$Program" "parts" "[I", .fieldLink RX6 108 "LitmusHall$Reader" "value" "I"] ++ wsX60 ++ wsX40) ++ (wsP_x_takeSkip ++ []))
theorem gW_x_partS : wsP_x_partS.all goodWord = true := by unfold wsP_x_partS; exact gw_mk (by decide +kernel) (gw_app gW_x_takeSkip rfl)
set_option maxRecDepth 20000 in
theorem gP_x_partS__x_takeSkip : GoodIn wsP_x_partS (wsV RX6 171 RX6 yX6_takeSkip wsP_x_takeSkip) := gw_in (pre := [.methodLink RX6 171 yX6_takeSkip, .instanceMethod yX6_takeSkip, .selects RX6 yX6_takeSkip yX6_takeSkip, .initialized RX6]) (by decide +kernel) (fun _ h => List.mem_cons_of_mem _ (List.mem_append_right _ (List.mem_append_left _ h))) gW_x_takeSkip
set_option maxHeartbeats 4000000 in
set_option maxRecDepth 100000 in
theorem x_partS (l : Launch) (D : va_G) (cI cB cZ : ClassId) (h0 : Nat) (d0 : Nat) (e3 : Nat) (k4 : Nat) (k5 : Nat) (k6 : Nat) (v7 : Value) (v9 : Value) (w0 : Value) (w1 : Value) (w2 : Value) (pv : Int32) (fv : Int32) (Kd : Nat → Nat) (sf : Nat → Int32) (nf : Nat → Int32) (t : Nat) (lp : Int32) (vr : Int32) (vl : Int32) (pf : Nat → Int32) (n : Nat) (ht : t ≤ 500) (hR : gRdI Kd nf sf) (hn : n + 8 ≤ 192) : gMi l yX6_readPart wsP_x_partS ({ frames := 3, cells := 0, slots := 0, locals := 62 }) D cI cB cZ [] [.ref h0, .int (nI n), .int 83] [(h0, .inr (6, [.ref d0, .int pv, .int fv, .int lp, .ref k4, .ref k5, .ref k6, v7, .int (nI t), v9, .int vr, .int vl])), (k4, .inl (cI, 501, .inl (fun j => nI (Kd j)))), (k5, .inl (cI, 501, .inl sf)), (k6, .inl (cI, 501, .inl nf)), (d0, .inr (4, [w0, w1, w2, .ref e3])), (e3, .inl (cI, 192, .inl pf))] (fun r9 w9 => ∃ z : Int32, ∃ pv9 : Int32, ∃ fv9 : Int32, ∃ t9 : Nat, ∃ vl9 : Int32, ((z = 0 ∧ ¬ fv9 = 0) ∨ (z = 1 ∧ fv9 = fv ∧ t < t9 ∧ (∃ x, x ≤ 999 ∧ vl9 = nI x))) ∧ (t ≤ t9 ∧ t9 ≤ 500) ∧ (rOut (rPt Kd 4 t) t9 (sf t9) z fv pv fv9 pv9) ∧ (¬ z = 0 → vl9 = nf (t + 1)) ∧ r9 = z ∧ w9 = [(h0, .inr (6, [.ref d0, .int pv9, .int fv9, .int lp, .ref k4, .ref k5, .ref k6, v7, .int (nI t9), v9, .int vr, .int vl9])), (k4, .inl (cI, 501, .inl (fun j => nI (Kd j)))), (k5, .inl (cI, 501, .inl sf)), (k6, .inl (cI, 501, .inl nf)), (d0, .inr (4, [w0, w1, w2, .ref e3])), (e3, .inl (cI, 192, .inl (upd pf (n + 7) vl9)))]) := by
  refine gMi.of (cc := cX6_readPart) (maxL := 5) (ret := (some .boolean)) (by decide) rfl (Nat.le_of_ble_eq_true rfl) (fun p e s m below meth c A ls hx hb hr hlk hml hts hown hin hA hP hK hD hS hN hl => ?_)
  have hown : s.vm.findClass RX6 = some m.cls := hown
  have hl : lv_has ls 5 [(0, .ref h0), (1, .int (nI n)), (2, .int 83)] := hl
  refine lv_iload_n hx hb dX6_readPart_0 rfl (lv_at hl 2 rfl) ?_
  refine lv_bipush (v := 82) hx hb dX6_readPart_1 (by decide) ?_
  refine lv_icmp_ne (tgt := 28) hx hb dX6_readPart_3 (by decide) (fun _ => ?_) (fun c9 => absurd c9 (by decide))
  refine lv_iload_n hx hb dX6_readPart_28 rfl (lv_at hl 2 rfl) ?_
  refine lv_bipush (v := 67) hx hb dX6_readPart_29 (by decide) ?_
  refine lv_icmp_ne (tgt := 56) hx hb dX6_readPart_31 (by decide) (fun _ => ?_) (fun c9 => absurd c9 (by decide))
  refine lv_iload_n hx hb dX6_readPart_56 rfl (lv_at hl 2 rfl) ?_
  refine lv_bipush (v := 83) hx hb dX6_readPart_57 (by decide) ?_
  refine lv_icmp_ne (tgt := 85) hx hb dX6_readPart_59 (by decide) (fun c9 => absurd (by decide) c9) (fun _ => ?_)
  refine lv_aload_n hx hb dX6_readPart_62 rfl (lv_at hl 0 rfl) ?_
  refine gx_goi (wc := [(h0, .inr (6, [.ref d0, .int pv, .int fv, .int lp, .ref k4, .ref k5, .ref k6, v7, .int (nI t), v9, .int vr, .int vl])), (k4, .inl (cI, 501, .inl (fun j => nI (Kd j)))), (k5, .inl (cI, 501, .inl sf)), (k6, .inl (cI, 501, .inl nf))]) (wr := [(d0, .inr (4, [w0, w1, w2, .ref e3])), (e3, .inl (cI, 192, .inl pf))]) (va_runV (As := []) (rest := []) ⟨hx, hb, hml, hown, hts⟩ (x_takeSkip l D cI cB cZ h0 k4 k5 k6 (.ref d0) (.int lp) (v7) (v9) (.int vr) pv fv Kd sf nf t vl (by omega) hR _) (cwV 0 hts gP_x_partS__x_takeSkip rfl rfl rfl (by decide +kernel) ⟨Nat.le_of_ble_eq_true rfl, Nat.le_of_ble_eq_true rfl⟩) (gx_preV (ci := 6) (q0 := 0) hK gN.nil hP hD [0, 1, 2, 3] rfl rfl rfl rfl) rfl rfl hl.1 rfl (lv_room (Nat.le_of_ble_eq_true rfl)) dX6_readPart_63 ⟨Nat.le_of_ble_eq_true rfl, Nat.le_of_ble_eq_true rfl⟩) hP hD hS hA [0, 1, 2, 3] [4, 5] rfl rfl rfl (by decide) (fun r1 w1 H locs hp hP hD hS => ?_)
  obtain ⟨e_1, e_2, e_3, e_4, e_5, hq_6, hq_7, hx63_0, hx63_1, h9, rfl⟩ := hp
  have h9 := h9.symm
  subst h9
  have hq_6 : (e_1 = 0 ∧ ¬ e_3 = 0) ∨ (e_1 = 1 ∧ e_3 = fv ∧ t < e_4 ∧ (∃ x, x ≤ 999 ∧ e_5 = nI x)) := hq_6
  have hq_7 : t ≤ e_4 ∧ e_4 ≤ 500 := hq_7
  have hx63_0 : rOut (rSkp Kd t) e_4 (sf e_4) e_1 fv pv e_3 e_2 := hx63_0
  have hx63_1 : ¬ e_1 = 0 → e_5 = nf (t + 1) := hx63_1
  have hpz := hq_6
  have hpt := hq_7
  refine lv_istore_n (lv' := [(3, .int e_1), (0, .ref h0), (1, .int (nI n)), (2, .int 83)]) hx hb dX6_readPart_66 rfl hl (by decide) rfl (fun ls hl => ?_)
  refine lv_aload_n hx hb dX6_readPart_67 rfl (lv_at hl 1 rfl) ?_
  refine va_get (D := D) (ci := 6) (v := .ref d0) (C := RX6) (T := TX6) (N := 12) hx hb hts (fun _ h => List.mem_cons_of_mem _ (List.mem_append_left _ (List.mem_append_left _ (List.mem_append_right _ h)))) hown hK hP 2 rfl rfl 0 (by decide) (hts (.fieldLink RX6 12 "LitmusHall$Reader" "draft" "LLitmusHall$Program;") (by decide +kernel)) (fun _ h9 => h9) rfl dX6_readPart_68 ?_
  refine va_get (D := D) (ci := 4) (v := .ref e3) (C := RX4) (T := TX4) (N := 4) hx hb hts (fun _ h => List.mem_cons_of_mem _ (List.mem_append_left _ (List.mem_append_right _ h))) hown hK hP 0 rfl rfl 3 (by decide) (hts (.fieldLink RX6 168 "LitmusHall$Program" "parts" "[I") (by decide +kernel)) (fun _ h9 => h9) rfl dX6_readPart_71 ?_
  refine lv_iload_n hx hb dX6_readPart_74 rfl (lv_at hl 2 rfl) ?_
  refine lv_bipush (v := 7) hx hb dX6_readPart_75 (by decide) ?_
  refine lv_iadd hx hb dX6_readPart_77 ?_
  refine gx_top (y := nI (n + 7)) (nI_add n 7) ?_
  refine lv_aload_n hx hb dX6_readPart_78 rfl (lv_at hl 1 rfl) ?_
  refine va_get (D := D) (ci := 6) (v := .int e_5) (C := RX6) (T := TX6) (N := 12) hx hb hts (fun _ h => List.mem_cons_of_mem _ (List.mem_append_left _ (List.mem_append_left _ (List.mem_append_right _ h)))) hown hK hP 2 rfl rfl 11 (by decide) (hts (.fieldLink RX6 108 "LitmusHall$Reader" "value" "I") (by decide +kernel)) (fun _ h9 => h9) rfl dX6_readPart_79 ?_
  refine gy_ist (i := (n + 7)) hx hb hK hP hD hS 1 rfl (by omega) (by omega) dX6_readPart_82 (fun H locs hP hD hS => ?_)
  have hP : va_P D vwCl [(d0, .inr (4, [w0, w1, w2, .ref e3])), (e3, .inl (cI, 192, .inl (upd pf (n + 7) e_5))), (h0, .inr (6, [.ref d0, .int e_2, .int e_3, .int lp, .ref k4, .ref k5, .ref k6, v7, .int (nI e_4), v9, .int vr, .int e_5])), (k4, .inl (cI, 501, .inl (fun j => nI (Kd j)))), (k5, .inl (cI, 501, .inl sf)), (k6, .inl (cI, 501, .inl nf))] H := hP
  have hD : va_D A [(d0, .inr (4, [w0, w1, w2, .ref e3])), (e3, .inl (cI, 192, .inl (upd pf (n + 7) e_5))), (h0, .inr (6, [.ref d0, .int e_2, .int e_3, .int lp, .ref k4, .ref k5, .ref k6, v7, .int (nI e_4), v9, .int vr, .int e_5])), (k4, .inl (cI, 501, .inl (fun j => nI (Kd j)))), (k5, .inl (cI, 501, .inl sf)), (k6, .inl (cI, 501, .inl nf))] := hD
  refine lv_iload_n hx hb dX6_readPart_83 rfl (lv_at hl 0 rfl) ?_
  have hP := hP.sub (ws' := [(h0, .inr (6, [.ref d0, .int e_2, .int e_3, .int lp, .ref k4, .ref k5, .ref k6, v7, .int (nI e_4), v9, .int vr, .int e_5])), (k4, .inl (cI, 501, .inl (fun j => nI (Kd j)))), (k5, .inl (cI, 501, .inl sf)), (k6, .inl (cI, 501, .inl nf)), (d0, .inr (4, [w0, w1, w2, .ref e3])), (e3, .inl (cI, 192, .inl (upd pf (n + 7) e_5)))]) [2, 3, 4, 5, 0, 1] rfl
  have hD := hD.sub (ws' := [(h0, .inr (6, [.ref d0, .int e_2, .int e_3, .int lp, .ref k4, .ref k5, .ref k6, v7, .int (nI e_4), v9, .int vr, .int e_5])), (k4, .inl (cI, 501, .inl (fun j => nI (Kd j)))), (k5, .inl (cI, 501, .inl sf)), (k6, .inl (cI, 501, .inl nf)), (d0, .inr (4, [w0, w1, w2, .ref e3])), (e3, .inl (cI, 192, .inl (upd pf (n + 7) e_5)))]) [2, 3, 4, 5, 0, 1] (by decide) rfl
  exact gx_zret (w' := [(h0, .inr (6, [.ref d0, .int e_2, .int e_3, .int lp, .ref k4, .ref k5, .ref k6, v7, .int (nI e_4), v9, .int vr, .int e_5])), (k4, .inl (cI, 501, .inl (fun j => nI (Kd j)))), (k5, .inl (cI, 501, .inl sf)), (k6, .inl (cI, 501, .inl nf)), (d0, .inr (4, [w0, w1, w2, .ref e3])), (e3, .inl (cI, 192, .inl (upd pf (n + 7) e_5)))]) hx hb hr hlk hK hP hD hS (Nat.le_of_ble_eq_true rfl) (Nat.le_of_ble_eq_true rfl) dX6_readPart_84 (gy_z01 (gTkz hpz)) ⟨e_1, e_2, e_3, e_4, e_5, hpz, hpt, hx63_0, hx63_1, rfl, rfl⟩
def wsP_x_partV : List Cond := .code yX6_readPart cX6_readPart 5 (some .boolean) :: (([.methodLink RX6 111 yX6_takeVal, .instanceMethod yX6_takeVal, .selects RX6 yX6_takeVal yX6_takeVal, .initialized RX6, .fieldLink RX6 12 "LitmusHall$Reader" "draft" "LLitmusHall$Program;", .fieldLink RX6 168 "LitmusHall$Program" "parts" "[I", .fieldLink RX6 122 "LitmusHall$Reader" "valueReg" "I", .fieldLink RX6 108 "LitmusHall$Reader" "value" "I"] ++ wsX60 ++ wsX40) ++ (wsP_x_takeVal1 ++ []))
theorem gW_x_partV : wsP_x_partV.all goodWord = true := by unfold wsP_x_partV; exact gw_mk (by decide +kernel) (gw_app gW_x_takeVal1 rfl)
set_option maxRecDepth 20000 in
theorem gP_x_partV__x_takeVal1 : GoodIn wsP_x_partV (wsV RX6 111 RX6 yX6_takeVal wsP_x_takeVal1) := gw_in (pre := [.methodLink RX6 111 yX6_takeVal, .instanceMethod yX6_takeVal, .selects RX6 yX6_takeVal yX6_takeVal, .initialized RX6]) (by decide +kernel) (fun _ h => List.mem_cons_of_mem _ (List.mem_append_right _ (List.mem_append_left _ h))) gW_x_takeVal1
set_option maxHeartbeats 4000000 in
set_option maxRecDepth 100000 in
theorem x_partV (l : Launch) (D : va_G) (cI cB cZ : ClassId) (h0 : Nat) (d0 : Nat) (e3 : Nat) (k4 : Nat) (k5 : Nat) (k6 : Nat) (v7 : Value) (v9 : Value) (w0 : Value) (w1 : Value) (w2 : Value) (pv : Int32) (fv : Int32) (Kd : Nat → Nat) (sf : Nat → Int32) (nf : Nat → Int32) (t : Nat) (lp : Int32) (vr : Int32) (vl : Int32) (pf : Nat → Int32) (n : Nat) (ht : t ≤ 500) (hR : gRdI Kd nf sf) (hn : n + 8 ≤ 192) : gMi l yX6_readPart wsP_x_partV ({ frames := 3, cells := 0, slots := 0, locals := 64 }) D cI cB cZ [] [.ref h0, .int (nI n), .int 86] [(h0, .inr (6, [.ref d0, .int pv, .int fv, .int lp, .ref k4, .ref k5, .ref k6, v7, .int (nI t), v9, .int vr, .int vl])), (k4, .inl (cI, 501, .inl (fun j => nI (Kd j)))), (k5, .inl (cI, 501, .inl sf)), (k6, .inl (cI, 501, .inl nf)), (d0, .inr (4, [w0, w1, w2, .ref e3])), (e3, .inl (cI, 192, .inl pf))] (fun r9 w9 => ∃ z : Int32, ∃ pv9 : Int32, ∃ fv9 : Int32, ∃ t9 : Nat, ∃ vr9 : Int32, ∃ vl9 : Int32, ((z = 0 ∧ ¬ fv9 = 0) ∨ (z = 1 ∧ fv9 = fv ∧ t < t9 ∧ (vr9 = (-1) ∨ ∃ r, r < 3 ∧ vr9 = nI r))) ∧ (t ≤ t9 ∧ t9 ≤ 500) ∧ (rOut (rPt Kd 2 t) t9 (sf t9) z fv pv fv9 pv9) ∧ (¬ z = 0 → vr9 = vRg Kd t ∧ vl9 = vVl Kd nf t) ∧ r9 = z ∧ w9 = [(h0, .inr (6, [.ref d0, .int pv9, .int fv9, .int lp, .ref k4, .ref k5, .ref k6, v7, .int (nI t9), v9, .int vr9, .int vl9])), (k4, .inl (cI, 501, .inl (fun j => nI (Kd j)))), (k5, .inl (cI, 501, .inl sf)), (k6, .inl (cI, 501, .inl nf)), (d0, .inr (4, [w0, w1, w2, .ref e3])), (e3, .inl (cI, 192, .inl (upd (upd pf (n + 3) vr9) ((n + 3) + 1) vl9)))]) := by
  refine gMi.of (cc := cX6_readPart) (maxL := 5) (ret := (some .boolean)) (by decide) rfl (Nat.le_of_ble_eq_true rfl) (fun p e s m below meth c A ls hx hb hr hlk hml hts hown hin hA hP hK hD hS hN hl => ?_)
  have hown : s.vm.findClass RX6 = some m.cls := hown
  have hl : lv_has ls 5 [(0, .ref h0), (1, .int (nI n)), (2, .int 86)] := hl
  refine lv_iload_n hx hb dX6_readPart_0 rfl (lv_at hl 2 rfl) ?_
  refine lv_bipush (v := 82) hx hb dX6_readPart_1 (by decide) ?_
  refine lv_icmp_ne (tgt := 28) hx hb dX6_readPart_3 (by decide) (fun _ => ?_) (fun c9 => absurd c9 (by decide))
  refine lv_iload_n hx hb dX6_readPart_28 rfl (lv_at hl 2 rfl) ?_
  refine lv_bipush (v := 67) hx hb dX6_readPart_29 (by decide) ?_
  refine lv_icmp_ne (tgt := 56) hx hb dX6_readPart_31 (by decide) (fun _ => ?_) (fun c9 => absurd c9 (by decide))
  refine lv_iload_n hx hb dX6_readPart_56 rfl (lv_at hl 2 rfl) ?_
  refine lv_bipush (v := 83) hx hb dX6_readPart_57 (by decide) ?_
  refine lv_icmp_ne (tgt := 85) hx hb dX6_readPart_59 (by decide) (fun _ => ?_) (fun c9 => absurd c9 (by decide))
  refine lv_iload_n hx hb dX6_readPart_85 rfl (lv_at hl 2 rfl) ?_
  refine lv_bipush (v := 86) hx hb dX6_readPart_86 (by decide) ?_
  refine lv_icmp_ne (tgt := 95) hx hb dX6_readPart_88 (by decide) (fun c9 => absurd (by decide) c9) (fun _ => ?_)
  refine lv_iconst (v := 3) hx hb dX6_readPart_91 (by decide) ?_
  refine lv_goto (tgt := 96) hx hb dX6_readPart_92 (by decide) ?_
  refine lv_istore_n (lv' := [(3, .int 3), (0, .ref h0), (1, .int (nI n)), (2, .int 86)]) hx hb dX6_readPart_96 rfl hl (by decide) rfl (fun ls hl => ?_)
  refine lv_aload_n hx hb dX6_readPart_97 rfl (lv_at hl 1 rfl) ?_
  refine lv_iconst (v := 1) hx hb dX6_readPart_98 (by decide) ?_
  refine gx_goi (wc := [(h0, .inr (6, [.ref d0, .int pv, .int fv, .int lp, .ref k4, .ref k5, .ref k6, v7, .int (nI t), v9, .int vr, .int vl])), (k4, .inl (cI, 501, .inl (fun j => nI (Kd j)))), (k5, .inl (cI, 501, .inl sf)), (k6, .inl (cI, 501, .inl nf))]) (wr := [(d0, .inr (4, [w0, w1, w2, .ref e3])), (e3, .inl (cI, 192, .inl pf))]) (va_runV (As := [.int 1]) (rest := []) ⟨hx, hb, hml, hown, hts⟩ (x_takeVal1 l D cI cB cZ h0 k4 k5 k6 (.ref d0) (.int lp) (v7) (v9) pv fv Kd sf nf t vl vr (by omega) hR _) (cwV 1 hts gP_x_partV__x_takeVal1 rfl rfl rfl (by decide +kernel) ⟨Nat.le_of_ble_eq_true rfl, Nat.le_of_ble_eq_true rfl⟩) (gx_preV (ci := 6) (q0 := 0) hK gN.nil hP hD [0, 1, 2, 3] rfl rfl rfl rfl) rfl rfl hl.1 rfl (lv_room (Nat.le_of_ble_eq_true rfl)) dX6_readPart_99 ⟨Nat.le_of_ble_eq_true rfl, Nat.le_of_ble_eq_true rfl⟩) hP hD hS hA [0, 1, 2, 3] [4, 5] rfl rfl rfl (by decide) (fun r1 w1 H locs hp hP hD hS => ?_)
  obtain ⟨e_1, e_2, e_3, e_4, e_5, e_6, hq_7, hq_8, hx99_0, hx99_1, h9, rfl⟩ := hp
  have h9 := h9.symm
  subst h9
  have hq_7 : (e_1 = 0 ∧ ¬ e_3 = 0) ∨ (e_1 = 1 ∧ e_3 = fv ∧ t < e_4 ∧ (e_6 = (-1) ∨ ∃ r, r < 3 ∧ e_6 = nI r)) := hq_7
  have hq_8 : t ≤ e_4 ∧ e_4 ≤ 500 := hq_8
  have hx99_0 : rOut (rVal Kd t) e_4 (sf e_4) e_1 fv pv e_3 e_2 := hx99_0
  have hx99_1 : ¬ e_1 = 0 → e_6 = vRg Kd t ∧ e_5 = vVl Kd nf t := hx99_1
  have hpz := hq_7
  have hpt := hq_8
  refine lv_istore (lv' := [(4, .int e_1), (3, .int 3), (0, .ref h0), (1, .int (nI n)), (2, .int 86)]) hx hb dX6_readPart_102 hl (by decide) rfl (fun ls hl => ?_)
  refine lv_aload_n hx hb dX6_readPart_104 rfl (lv_at hl 2 rfl) ?_
  refine va_get (D := D) (ci := 6) (v := .ref d0) (C := RX6) (T := TX6) (N := 12) hx hb hts (fun _ h => List.mem_cons_of_mem _ (List.mem_append_left _ (List.mem_append_left _ (List.mem_append_right _ h)))) hown hK hP 2 rfl rfl 0 (by decide) (hts (.fieldLink RX6 12 "LitmusHall$Reader" "draft" "LLitmusHall$Program;") (by decide +kernel)) (fun _ h9 => h9) rfl dX6_readPart_105 ?_
  refine va_get (D := D) (ci := 4) (v := .ref e3) (C := RX4) (T := TX4) (N := 4) hx hb hts (fun _ h => List.mem_cons_of_mem _ (List.mem_append_left _ (List.mem_append_right _ h))) hown hK hP 0 rfl rfl 3 (by decide) (hts (.fieldLink RX6 168 "LitmusHall$Program" "parts" "[I") (by decide +kernel)) (fun _ h9 => h9) rfl dX6_readPart_108 ?_
  refine lv_iload_n hx hb dX6_readPart_111 rfl (lv_at hl 3 rfl) ?_
  refine lv_iload_n hx hb dX6_readPart_112 rfl (lv_at hl 1 rfl) ?_
  refine lv_iadd hx hb dX6_readPart_113 ?_
  refine gx_top (y := nI (n + 3)) (nI_add n 3) ?_
  refine lv_aload_n hx hb dX6_readPart_114 rfl (lv_at hl 2 rfl) ?_
  refine va_get (D := D) (ci := 6) (v := .int e_6) (C := RX6) (T := TX6) (N := 12) hx hb hts (fun _ h => List.mem_cons_of_mem _ (List.mem_append_left _ (List.mem_append_left _ (List.mem_append_right _ h)))) hown hK hP 2 rfl rfl 10 (by decide) (hts (.fieldLink RX6 122 "LitmusHall$Reader" "valueReg" "I") (by decide +kernel)) (fun _ h9 => h9) rfl dX6_readPart_115 ?_
  refine gy_ist (i := (n + 3)) hx hb hK hP hD hS 1 rfl (by omega) (by omega) dX6_readPart_118 (fun H locs hP hD hS => ?_)
  have hP : va_P D vwCl [(d0, .inr (4, [w0, w1, w2, .ref e3])), (e3, .inl (cI, 192, .inl (upd pf (n + 3) e_6))), (h0, .inr (6, [.ref d0, .int e_2, .int e_3, .int lp, .ref k4, .ref k5, .ref k6, v7, .int (nI e_4), v9, .int e_6, .int e_5])), (k4, .inl (cI, 501, .inl (fun j => nI (Kd j)))), (k5, .inl (cI, 501, .inl sf)), (k6, .inl (cI, 501, .inl nf))] H := hP
  have hD : va_D A [(d0, .inr (4, [w0, w1, w2, .ref e3])), (e3, .inl (cI, 192, .inl (upd pf (n + 3) e_6))), (h0, .inr (6, [.ref d0, .int e_2, .int e_3, .int lp, .ref k4, .ref k5, .ref k6, v7, .int (nI e_4), v9, .int e_6, .int e_5])), (k4, .inl (cI, 501, .inl (fun j => nI (Kd j)))), (k5, .inl (cI, 501, .inl sf)), (k6, .inl (cI, 501, .inl nf))] := hD
  refine lv_aload_n hx hb dX6_readPart_119 rfl (lv_at hl 2 rfl) ?_
  refine va_get (D := D) (ci := 6) (v := .ref d0) (C := RX6) (T := TX6) (N := 12) hx hb hts (fun _ h => List.mem_cons_of_mem _ (List.mem_append_left _ (List.mem_append_left _ (List.mem_append_right _ h)))) hown hK hP 2 rfl rfl 0 (by decide) (hts (.fieldLink RX6 12 "LitmusHall$Reader" "draft" "LLitmusHall$Program;") (by decide +kernel)) (fun _ h9 => h9) rfl dX6_readPart_120 ?_
  refine va_get (D := D) (ci := 4) (v := .ref e3) (C := RX4) (T := TX4) (N := 4) hx hb hts (fun _ h => List.mem_cons_of_mem _ (List.mem_append_left _ (List.mem_append_right _ h))) hown hK hP 0 rfl rfl 3 (by decide) (hts (.fieldLink RX6 168 "LitmusHall$Program" "parts" "[I") (by decide +kernel)) (fun _ h9 => h9) rfl dX6_readPart_123 ?_
  refine lv_iload_n hx hb dX6_readPart_126 rfl (lv_at hl 3 rfl) ?_
  refine lv_iload_n hx hb dX6_readPart_127 rfl (lv_at hl 1 rfl) ?_
  refine lv_iadd hx hb dX6_readPart_128 ?_
  refine gx_top (y := nI (n + 3)) (nI_add n 3) ?_
  refine lv_iconst (v := 1) hx hb dX6_readPart_129 (by decide) ?_
  refine lv_iadd hx hb dX6_readPart_130 ?_
  refine gx_top (y := nI ((n + 3) + 1)) (nI_add (n + 3) 1) ?_
  refine lv_aload_n hx hb dX6_readPart_131 rfl (lv_at hl 2 rfl) ?_
  refine va_get (D := D) (ci := 6) (v := .int e_5) (C := RX6) (T := TX6) (N := 12) hx hb hts (fun _ h => List.mem_cons_of_mem _ (List.mem_append_left _ (List.mem_append_left _ (List.mem_append_right _ h)))) hown hK hP 2 rfl rfl 11 (by decide) (hts (.fieldLink RX6 108 "LitmusHall$Reader" "value" "I") (by decide +kernel)) (fun _ h9 => h9) rfl dX6_readPart_132 ?_
  refine gy_ist (i := ((n + 3) + 1)) hx hb hK hP hD hS 1 rfl (by omega) (by omega) dX6_readPart_135 (fun H locs hP hD hS => ?_)
  have hP : va_P D vwCl [(d0, .inr (4, [w0, w1, w2, .ref e3])), (e3, .inl (cI, 192, .inl (upd (upd pf (n + 3) e_6) ((n + 3) + 1) e_5))), (h0, .inr (6, [.ref d0, .int e_2, .int e_3, .int lp, .ref k4, .ref k5, .ref k6, v7, .int (nI e_4), v9, .int e_6, .int e_5])), (k4, .inl (cI, 501, .inl (fun j => nI (Kd j)))), (k5, .inl (cI, 501, .inl sf)), (k6, .inl (cI, 501, .inl nf))] H := hP
  have hD : va_D A [(d0, .inr (4, [w0, w1, w2, .ref e3])), (e3, .inl (cI, 192, .inl (upd (upd pf (n + 3) e_6) ((n + 3) + 1) e_5))), (h0, .inr (6, [.ref d0, .int e_2, .int e_3, .int lp, .ref k4, .ref k5, .ref k6, v7, .int (nI e_4), v9, .int e_6, .int e_5])), (k4, .inl (cI, 501, .inl (fun j => nI (Kd j)))), (k5, .inl (cI, 501, .inl sf)), (k6, .inl (cI, 501, .inl nf))] := hD
  refine lv_iload hx hb dX6_readPart_136 (lv_at hl 0 rfl) ?_
  have hP := hP.sub (ws' := [(h0, .inr (6, [.ref d0, .int e_2, .int e_3, .int lp, .ref k4, .ref k5, .ref k6, v7, .int (nI e_4), v9, .int e_6, .int e_5])), (k4, .inl (cI, 501, .inl (fun j => nI (Kd j)))), (k5, .inl (cI, 501, .inl sf)), (k6, .inl (cI, 501, .inl nf)), (d0, .inr (4, [w0, w1, w2, .ref e3])), (e3, .inl (cI, 192, .inl (upd (upd pf (n + 3) e_6) ((n + 3) + 1) e_5)))]) [2, 3, 4, 5, 0, 1] rfl
  have hD := hD.sub (ws' := [(h0, .inr (6, [.ref d0, .int e_2, .int e_3, .int lp, .ref k4, .ref k5, .ref k6, v7, .int (nI e_4), v9, .int e_6, .int e_5])), (k4, .inl (cI, 501, .inl (fun j => nI (Kd j)))), (k5, .inl (cI, 501, .inl sf)), (k6, .inl (cI, 501, .inl nf)), (d0, .inr (4, [w0, w1, w2, .ref e3])), (e3, .inl (cI, 192, .inl (upd (upd pf (n + 3) e_6) ((n + 3) + 1) e_5)))]) [2, 3, 4, 5, 0, 1] (by decide) rfl
  exact gx_zret (w' := [(h0, .inr (6, [.ref d0, .int e_2, .int e_3, .int lp, .ref k4, .ref k5, .ref k6, v7, .int (nI e_4), v9, .int e_6, .int e_5])), (k4, .inl (cI, 501, .inl (fun j => nI (Kd j)))), (k5, .inl (cI, 501, .inl sf)), (k6, .inl (cI, 501, .inl nf)), (d0, .inr (4, [w0, w1, w2, .ref e3])), (e3, .inl (cI, 192, .inl (upd (upd pf (n + 3) e_6) ((n + 3) + 1) e_5)))]) hx hb hr hlk hK hP hD hS (Nat.le_of_ble_eq_true rfl) (Nat.le_of_ble_eq_true rfl) dX6_readPart_138 (gy_z01 (gTkz hpz)) ⟨e_1, e_2, e_3, e_4, e_6, e_5, hpz, hpt, hx99_0, hx99_1, rfl, rfl⟩
def wsP_x_partW : List Cond := .code yX6_readPart cX6_readPart 5 (some .boolean) :: (([.methodLink RX6 111 yX6_takeVal, .instanceMethod yX6_takeVal, .selects RX6 yX6_takeVal yX6_takeVal, .initialized RX6, .fieldLink RX6 12 "LitmusHall$Reader" "draft" "LLitmusHall$Program;", .fieldLink RX6 168 "LitmusHall$Program" "parts" "[I", .fieldLink RX6 122 "LitmusHall$Reader" "valueReg" "I", .fieldLink RX6 108 "LitmusHall$Reader" "value" "I"] ++ wsX60 ++ wsX40) ++ (wsP_x_takeVal1 ++ []))
theorem gW_x_partW : wsP_x_partW.all goodWord = true := by unfold wsP_x_partW; exact gw_mk (by decide +kernel) (gw_app gW_x_takeVal1 rfl)
set_option maxRecDepth 20000 in
theorem gP_x_partW__x_takeVal1 : GoodIn wsP_x_partW (wsV RX6 111 RX6 yX6_takeVal wsP_x_takeVal1) := gw_in (pre := [.methodLink RX6 111 yX6_takeVal, .instanceMethod yX6_takeVal, .selects RX6 yX6_takeVal yX6_takeVal, .initialized RX6]) (by decide +kernel) (fun _ h => List.mem_cons_of_mem _ (List.mem_append_right _ (List.mem_append_left _ h))) gW_x_takeVal1
set_option maxHeartbeats 4000000 in
set_option maxRecDepth 100000 in
theorem x_partW (l : Launch) (D : va_G) (cI cB cZ : ClassId) (h0 : Nat) (d0 : Nat) (e3 : Nat) (k4 : Nat) (k5 : Nat) (k6 : Nat) (v7 : Value) (v9 : Value) (w0 : Value) (w1 : Value) (w2 : Value) (pv : Int32) (fv : Int32) (Kd : Nat → Nat) (sf : Nat → Int32) (nf : Nat → Int32) (t : Nat) (lp : Int32) (vr : Int32) (vl : Int32) (pf : Nat → Int32) (n : Nat) (ht : t ≤ 500) (hR : gRdI Kd nf sf) (hn : n + 8 ≤ 192) : gMi l yX6_readPart wsP_x_partW ({ frames := 3, cells := 0, slots := 0, locals := 64 }) D cI cB cZ [] [.ref h0, .int (nI n), .int 87] [(h0, .inr (6, [.ref d0, .int pv, .int fv, .int lp, .ref k4, .ref k5, .ref k6, v7, .int (nI t), v9, .int vr, .int vl])), (k4, .inl (cI, 501, .inl (fun j => nI (Kd j)))), (k5, .inl (cI, 501, .inl sf)), (k6, .inl (cI, 501, .inl nf)), (d0, .inr (4, [w0, w1, w2, .ref e3])), (e3, .inl (cI, 192, .inl pf))] (fun r9 w9 => ∃ z : Int32, ∃ pv9 : Int32, ∃ fv9 : Int32, ∃ t9 : Nat, ∃ vr9 : Int32, ∃ vl9 : Int32, ((z = 0 ∧ ¬ fv9 = 0) ∨ (z = 1 ∧ fv9 = fv ∧ t < t9 ∧ (vr9 = (-1) ∨ ∃ r, r < 3 ∧ vr9 = nI r))) ∧ (t ≤ t9 ∧ t9 ≤ 500) ∧ (rOut (rPt Kd 3 t) t9 (sf t9) z fv pv fv9 pv9) ∧ (¬ z = 0 → vr9 = vRg Kd t ∧ vl9 = vVl Kd nf t) ∧ r9 = z ∧ w9 = [(h0, .inr (6, [.ref d0, .int pv9, .int fv9, .int lp, .ref k4, .ref k5, .ref k6, v7, .int (nI t9), v9, .int vr9, .int vl9])), (k4, .inl (cI, 501, .inl (fun j => nI (Kd j)))), (k5, .inl (cI, 501, .inl sf)), (k6, .inl (cI, 501, .inl nf)), (d0, .inr (4, [w0, w1, w2, .ref e3])), (e3, .inl (cI, 192, .inl (upd (upd pf (n + 5) vr9) ((n + 5) + 1) vl9)))]) := by
  refine gMi.of (cc := cX6_readPart) (maxL := 5) (ret := (some .boolean)) (by decide) rfl (Nat.le_of_ble_eq_true rfl) (fun p e s m below meth c A ls hx hb hr hlk hml hts hown hin hA hP hK hD hS hN hl => ?_)
  have hown : s.vm.findClass RX6 = some m.cls := hown
  have hl : lv_has ls 5 [(0, .ref h0), (1, .int (nI n)), (2, .int 87)] := hl
  refine lv_iload_n hx hb dX6_readPart_0 rfl (lv_at hl 2 rfl) ?_
  refine lv_bipush (v := 82) hx hb dX6_readPart_1 (by decide) ?_
  refine lv_icmp_ne (tgt := 28) hx hb dX6_readPart_3 (by decide) (fun _ => ?_) (fun c9 => absurd c9 (by decide))
  refine lv_iload_n hx hb dX6_readPart_28 rfl (lv_at hl 2 rfl) ?_
  refine lv_bipush (v := 67) hx hb dX6_readPart_29 (by decide) ?_
  refine lv_icmp_ne (tgt := 56) hx hb dX6_readPart_31 (by decide) (fun _ => ?_) (fun c9 => absurd c9 (by decide))
  refine lv_iload_n hx hb dX6_readPart_56 rfl (lv_at hl 2 rfl) ?_
  refine lv_bipush (v := 83) hx hb dX6_readPart_57 (by decide) ?_
  refine lv_icmp_ne (tgt := 85) hx hb dX6_readPart_59 (by decide) (fun _ => ?_) (fun c9 => absurd c9 (by decide))
  refine lv_iload_n hx hb dX6_readPart_85 rfl (lv_at hl 2 rfl) ?_
  refine lv_bipush (v := 86) hx hb dX6_readPart_86 (by decide) ?_
  refine lv_icmp_ne (tgt := 95) hx hb dX6_readPart_88 (by decide) (fun _ => ?_) (fun c9 => absurd c9 (by decide))
  refine lv_iconst (v := 5) hx hb dX6_readPart_95 (by decide) ?_
  refine lv_istore_n (lv' := [(3, .int 5), (0, .ref h0), (1, .int (nI n)), (2, .int 87)]) hx hb dX6_readPart_96 rfl hl (by decide) rfl (fun ls hl => ?_)
  refine lv_aload_n hx hb dX6_readPart_97 rfl (lv_at hl 1 rfl) ?_
  refine lv_iconst (v := 1) hx hb dX6_readPart_98 (by decide) ?_
  refine gx_goi (wc := [(h0, .inr (6, [.ref d0, .int pv, .int fv, .int lp, .ref k4, .ref k5, .ref k6, v7, .int (nI t), v9, .int vr, .int vl])), (k4, .inl (cI, 501, .inl (fun j => nI (Kd j)))), (k5, .inl (cI, 501, .inl sf)), (k6, .inl (cI, 501, .inl nf))]) (wr := [(d0, .inr (4, [w0, w1, w2, .ref e3])), (e3, .inl (cI, 192, .inl pf))]) (va_runV (As := [.int 1]) (rest := []) ⟨hx, hb, hml, hown, hts⟩ (x_takeVal1 l D cI cB cZ h0 k4 k5 k6 (.ref d0) (.int lp) (v7) (v9) pv fv Kd sf nf t vl vr (by omega) hR _) (cwV 1 hts gP_x_partW__x_takeVal1 rfl rfl rfl (by decide +kernel) ⟨Nat.le_of_ble_eq_true rfl, Nat.le_of_ble_eq_true rfl⟩) (gx_preV (ci := 6) (q0 := 0) hK gN.nil hP hD [0, 1, 2, 3] rfl rfl rfl rfl) rfl rfl hl.1 rfl (lv_room (Nat.le_of_ble_eq_true rfl)) dX6_readPart_99 ⟨Nat.le_of_ble_eq_true rfl, Nat.le_of_ble_eq_true rfl⟩) hP hD hS hA [0, 1, 2, 3] [4, 5] rfl rfl rfl (by decide) (fun r1 w1 H locs hp hP hD hS => ?_)
  obtain ⟨e_1, e_2, e_3, e_4, e_5, e_6, hq_7, hq_8, hx99_0, hx99_1, h9, rfl⟩ := hp
  have h9 := h9.symm
  subst h9
  have hq_7 : (e_1 = 0 ∧ ¬ e_3 = 0) ∨ (e_1 = 1 ∧ e_3 = fv ∧ t < e_4 ∧ (e_6 = (-1) ∨ ∃ r, r < 3 ∧ e_6 = nI r)) := hq_7
  have hq_8 : t ≤ e_4 ∧ e_4 ≤ 500 := hq_8
  have hx99_0 : rOut (rVal Kd t) e_4 (sf e_4) e_1 fv pv e_3 e_2 := hx99_0
  have hx99_1 : ¬ e_1 = 0 → e_6 = vRg Kd t ∧ e_5 = vVl Kd nf t := hx99_1
  have hpz := hq_7
  have hpt := hq_8
  refine lv_istore (lv' := [(4, .int e_1), (3, .int 5), (0, .ref h0), (1, .int (nI n)), (2, .int 87)]) hx hb dX6_readPart_102 hl (by decide) rfl (fun ls hl => ?_)
  refine lv_aload_n hx hb dX6_readPart_104 rfl (lv_at hl 2 rfl) ?_
  refine va_get (D := D) (ci := 6) (v := .ref d0) (C := RX6) (T := TX6) (N := 12) hx hb hts (fun _ h => List.mem_cons_of_mem _ (List.mem_append_left _ (List.mem_append_left _ (List.mem_append_right _ h)))) hown hK hP 2 rfl rfl 0 (by decide) (hts (.fieldLink RX6 12 "LitmusHall$Reader" "draft" "LLitmusHall$Program;") (by decide +kernel)) (fun _ h9 => h9) rfl dX6_readPart_105 ?_
  refine va_get (D := D) (ci := 4) (v := .ref e3) (C := RX4) (T := TX4) (N := 4) hx hb hts (fun _ h => List.mem_cons_of_mem _ (List.mem_append_left _ (List.mem_append_right _ h))) hown hK hP 0 rfl rfl 3 (by decide) (hts (.fieldLink RX6 168 "LitmusHall$Program" "parts" "[I") (by decide +kernel)) (fun _ h9 => h9) rfl dX6_readPart_108 ?_
  refine lv_iload_n hx hb dX6_readPart_111 rfl (lv_at hl 3 rfl) ?_
  refine lv_iload_n hx hb dX6_readPart_112 rfl (lv_at hl 1 rfl) ?_
  refine lv_iadd hx hb dX6_readPart_113 ?_
  refine gx_top (y := nI (n + 5)) (nI_add n 5) ?_
  refine lv_aload_n hx hb dX6_readPart_114 rfl (lv_at hl 2 rfl) ?_
  refine va_get (D := D) (ci := 6) (v := .int e_6) (C := RX6) (T := TX6) (N := 12) hx hb hts (fun _ h => List.mem_cons_of_mem _ (List.mem_append_left _ (List.mem_append_left _ (List.mem_append_right _ h)))) hown hK hP 2 rfl rfl 10 (by decide) (hts (.fieldLink RX6 122 "LitmusHall$Reader" "valueReg" "I") (by decide +kernel)) (fun _ h9 => h9) rfl dX6_readPart_115 ?_
  refine gy_ist (i := (n + 5)) hx hb hK hP hD hS 1 rfl (by omega) (by omega) dX6_readPart_118 (fun H locs hP hD hS => ?_)
  have hP : va_P D vwCl [(d0, .inr (4, [w0, w1, w2, .ref e3])), (e3, .inl (cI, 192, .inl (upd pf (n + 5) e_6))), (h0, .inr (6, [.ref d0, .int e_2, .int e_3, .int lp, .ref k4, .ref k5, .ref k6, v7, .int (nI e_4), v9, .int e_6, .int e_5])), (k4, .inl (cI, 501, .inl (fun j => nI (Kd j)))), (k5, .inl (cI, 501, .inl sf)), (k6, .inl (cI, 501, .inl nf))] H := hP
  have hD : va_D A [(d0, .inr (4, [w0, w1, w2, .ref e3])), (e3, .inl (cI, 192, .inl (upd pf (n + 5) e_6))), (h0, .inr (6, [.ref d0, .int e_2, .int e_3, .int lp, .ref k4, .ref k5, .ref k6, v7, .int (nI e_4), v9, .int e_6, .int e_5])), (k4, .inl (cI, 501, .inl (fun j => nI (Kd j)))), (k5, .inl (cI, 501, .inl sf)), (k6, .inl (cI, 501, .inl nf))] := hD
  refine lv_aload_n hx hb dX6_readPart_119 rfl (lv_at hl 2 rfl) ?_
  refine va_get (D := D) (ci := 6) (v := .ref d0) (C := RX6) (T := TX6) (N := 12) hx hb hts (fun _ h => List.mem_cons_of_mem _ (List.mem_append_left _ (List.mem_append_left _ (List.mem_append_right _ h)))) hown hK hP 2 rfl rfl 0 (by decide) (hts (.fieldLink RX6 12 "LitmusHall$Reader" "draft" "LLitmusHall$Program;") (by decide +kernel)) (fun _ h9 => h9) rfl dX6_readPart_120 ?_
  refine va_get (D := D) (ci := 4) (v := .ref e3) (C := RX4) (T := TX4) (N := 4) hx hb hts (fun _ h => List.mem_cons_of_mem _ (List.mem_append_left _ (List.mem_append_right _ h))) hown hK hP 0 rfl rfl 3 (by decide) (hts (.fieldLink RX6 168 "LitmusHall$Program" "parts" "[I") (by decide +kernel)) (fun _ h9 => h9) rfl dX6_readPart_123 ?_
  refine lv_iload_n hx hb dX6_readPart_126 rfl (lv_at hl 3 rfl) ?_
  refine lv_iload_n hx hb dX6_readPart_127 rfl (lv_at hl 1 rfl) ?_
  refine lv_iadd hx hb dX6_readPart_128 ?_
  refine gx_top (y := nI (n + 5)) (nI_add n 5) ?_
  refine lv_iconst (v := 1) hx hb dX6_readPart_129 (by decide) ?_
  refine lv_iadd hx hb dX6_readPart_130 ?_
  refine gx_top (y := nI ((n + 5) + 1)) (nI_add (n + 5) 1) ?_
  refine lv_aload_n hx hb dX6_readPart_131 rfl (lv_at hl 2 rfl) ?_
  refine va_get (D := D) (ci := 6) (v := .int e_5) (C := RX6) (T := TX6) (N := 12) hx hb hts (fun _ h => List.mem_cons_of_mem _ (List.mem_append_left _ (List.mem_append_left _ (List.mem_append_right _ h)))) hown hK hP 2 rfl rfl 11 (by decide) (hts (.fieldLink RX6 108 "LitmusHall$Reader" "value" "I") (by decide +kernel)) (fun _ h9 => h9) rfl dX6_readPart_132 ?_
  refine gy_ist (i := ((n + 5) + 1)) hx hb hK hP hD hS 1 rfl (by omega) (by omega) dX6_readPart_135 (fun H locs hP hD hS => ?_)
  have hP : va_P D vwCl [(d0, .inr (4, [w0, w1, w2, .ref e3])), (e3, .inl (cI, 192, .inl (upd (upd pf (n + 5) e_6) ((n + 5) + 1) e_5))), (h0, .inr (6, [.ref d0, .int e_2, .int e_3, .int lp, .ref k4, .ref k5, .ref k6, v7, .int (nI e_4), v9, .int e_6, .int e_5])), (k4, .inl (cI, 501, .inl (fun j => nI (Kd j)))), (k5, .inl (cI, 501, .inl sf)), (k6, .inl (cI, 501, .inl nf))] H := hP
  have hD : va_D A [(d0, .inr (4, [w0, w1, w2, .ref e3])), (e3, .inl (cI, 192, .inl (upd (upd pf (n + 5) e_6) ((n + 5) + 1) e_5))), (h0, .inr (6, [.ref d0, .int e_2, .int e_3, .int lp, .ref k4, .ref k5, .ref k6, v7, .int (nI e_4), v9, .int e_6, .int e_5])), (k4, .inl (cI, 501, .inl (fun j => nI (Kd j)))), (k5, .inl (cI, 501, .inl sf)), (k6, .inl (cI, 501, .inl nf))] := hD
  refine lv_iload hx hb dX6_readPart_136 (lv_at hl 0 rfl) ?_
  have hP := hP.sub (ws' := [(h0, .inr (6, [.ref d0, .int e_2, .int e_3, .int lp, .ref k4, .ref k5, .ref k6, v7, .int (nI e_4), v9, .int e_6, .int e_5])), (k4, .inl (cI, 501, .inl (fun j => nI (Kd j)))), (k5, .inl (cI, 501, .inl sf)), (k6, .inl (cI, 501, .inl nf)), (d0, .inr (4, [w0, w1, w2, .ref e3])), (e3, .inl (cI, 192, .inl (upd (upd pf (n + 5) e_6) ((n + 5) + 1) e_5)))]) [2, 3, 4, 5, 0, 1] rfl
  have hD := hD.sub (ws' := [(h0, .inr (6, [.ref d0, .int e_2, .int e_3, .int lp, .ref k4, .ref k5, .ref k6, v7, .int (nI e_4), v9, .int e_6, .int e_5])), (k4, .inl (cI, 501, .inl (fun j => nI (Kd j)))), (k5, .inl (cI, 501, .inl sf)), (k6, .inl (cI, 501, .inl nf)), (d0, .inr (4, [w0, w1, w2, .ref e3])), (e3, .inl (cI, 192, .inl (upd (upd pf (n + 5) e_6) ((n + 5) + 1) e_5)))]) [2, 3, 4, 5, 0, 1] (by decide) rfl
  exact gx_zret (w' := [(h0, .inr (6, [.ref d0, .int e_2, .int e_3, .int lp, .ref k4, .ref k5, .ref k6, v7, .int (nI e_4), v9, .int e_6, .int e_5])), (k4, .inl (cI, 501, .inl (fun j => nI (Kd j)))), (k5, .inl (cI, 501, .inl sf)), (k6, .inl (cI, 501, .inl nf)), (d0, .inr (4, [w0, w1, w2, .ref e3])), (e3, .inl (cI, 192, .inl (upd (upd pf (n + 5) e_6) ((n + 5) + 1) e_5)))]) hx hb hr hlk hK hP hD hS (Nat.le_of_ble_eq_true rfl) (Nat.le_of_ble_eq_true rfl) dX6_readPart_138 (gy_z01 (gTkz hpz)) ⟨e_1, e_2, e_3, e_4, e_6, e_5, hpz, hpt, hx99_0, hx99_1, rfl, rfl⟩
