
def wsP_x_has : List Cond := .code yX2_has cX2_has 2 (some .boolean) :: (([.fieldLink RX2 34 "LitmusHall$Findings" "size" "I"] ++ wsX20) ++ [])
theorem gW_x_has : wsP_x_has.all goodWord = true := by unfold wsP_x_has; exact gw_mk (by decide +kernel) rfl
set_option maxHeartbeats 4000000 in
set_option maxRecDepth 100000 in
theorem x_has (l : Launch) (D : va_G) (cI cB cZ : ClassId) (h0 : Nat) (v0 : Value) (v1 : Value) (v2 : Value) (v4 : Value) (sz : Nat) (x : Int32) (hs : sz ≤ 3000) : gMi l yX2_has wsP_x_has ({ frames := 0, cells := 0, slots := 0, locals := 0 }) D cI cB cZ [] [.ref h0, .int x] [(h0, .inr (2, [v0, v1, v2, .int (nI sz), v4]))] (fun r9 w9 => ∃ z : Int32, (z = 0 ∨ (z = 1 ∧ ∃ j, j < sz ∧ x = nI j)) ∧ (gHas z x sz) ∧ r9 = z ∧ w9 = [(h0, .inr (2, [v0, v1, v2, .int (nI sz), v4]))]) := by
  refine gMi.of (cc := cX2_has) (maxL := 2) (ret := (some .boolean)) (by decide) rfl (Nat.le_of_ble_eq_true rfl) (fun p e s m below meth c A ls hx hb hr hlk hml hts hown hin hA hP hK hD hS hN hl => ?_)
  have hown : s.vm.findClass RX2 = some m.cls := hown
  have hl : lv_has ls 2 [(0, .ref h0), (1, .int x)] := hl
  refine lv_iload_n hx hb dX2_has_0 rfl (lv_at hl 1 rfl) ?_
  refine lv_if_lt (tgt := 16) hx hb dX2_has_1 (by decide) (fun c_1 => ?_) (fun c_1 => ?_)
  · refine lv_iconst (v := 0) hx hb dX2_has_16 (by decide) ?_
    exact gx_zret (w' := [(h0, .inr (2, [v0, v1, v2, .int (nI sz), v4]))]) hx hb hr hlk hK hP hD hS (Nat.le_of_ble_eq_true rfl) (Nat.le_of_ble_eq_true rfl) dX2_has_17 rfl ⟨0, (by first | exact Or.inl rfl | exact Or.inr ⟨rfl, gy_lt2 (by omega) c_1 c_1⟩), (by first | exact gHas_n (by omega) c_1 | exact gHas_g (by omega) c_1 | exact Or.inl ⟨rfl, gy_lt2 (by omega) c_1 c_1⟩), rfl, rfl⟩
  · refine lv_iload_n hx hb dX2_has_4 rfl (lv_at hl 1 rfl) ?_
    refine lv_aload_n hx hb dX2_has_5 rfl (lv_at hl 0 rfl) ?_
    refine va_get (D := D) (ci := 2) (v := .int (nI sz)) (C := RX2) (T := TX2) (N := 5) hx hb hts (fun _ h => List.mem_cons_of_mem _ (List.mem_append_left _ (List.mem_append_right _ h))) hown hK hP 0 rfl rfl 3 (by decide) (hts (.fieldLink RX2 34 "LitmusHall$Findings" "size" "I") (by decide +kernel)) (fun _ h9 => h9) rfl dX2_has_6 ?_
    refine lv_icmp_ge (tgt := 16) hx hb dX2_has_9 (by decide) (fun c_2 => ?_) (fun c_2 => ?_)
    · refine lv_iconst (v := 0) hx hb dX2_has_16 (by decide) ?_
      exact gx_zret (w' := [(h0, .inr (2, [v0, v1, v2, .int (nI sz), v4]))]) hx hb hr hlk hK hP hD hS (Nat.le_of_ble_eq_true rfl) (Nat.le_of_ble_eq_true rfl) dX2_has_17 rfl ⟨0, (by first | exact Or.inl rfl | exact Or.inr ⟨rfl, gy_lt2 (by omega) c_1 c_2⟩), (by first | exact gHas_n (by omega) c_2 | exact gHas_g (by omega) c_2 | exact Or.inl ⟨rfl, gy_lt2 (by omega) c_1 c_2⟩), rfl, rfl⟩
    · refine lv_iconst (v := 1) hx hb dX2_has_12 (by decide) ?_
      refine lv_goto (tgt := 17) hx hb dX2_has_13 (by decide) ?_
      exact gx_zret (w' := [(h0, .inr (2, [v0, v1, v2, .int (nI sz), v4]))]) hx hb hr hlk hK hP hD hS (Nat.le_of_ble_eq_true rfl) (Nat.le_of_ble_eq_true rfl) dX2_has_17 rfl ⟨1, (by first | exact Or.inl rfl | exact Or.inr ⟨rfl, gy_lt2 (by omega) c_1 c_2⟩), (by first | exact gHas_n (by omega) c_2 | exact gHas_g (by omega) c_2 | exact Or.inl ⟨rfl, gy_lt2 (by omega) c_1 c_2⟩), rfl, rfl⟩
def wsP_x_stepOfF : List Cond := .code yX2_stepOf cX2_stepOf 4 (some .int) :: (([.fieldLink RX2 11 "LitmusHall$Findings" "records" "[I"] ++ wsX20) ++ [])
theorem gW_x_stepOfF : wsP_x_stepOfF.all goodWord = true := by unfold wsP_x_stepOfF; exact gw_mk (by decide +kernel) rfl
set_option maxHeartbeats 4000000 in
set_option maxRecDepth 100000 in
theorem x_stepOfF (l : Launch) (D : va_G) (cI cB cZ : ClassId) (h0 : Nat) (a4 : Nat) (v0 : Value) (v1 : Value) (v2 : Value) (v3 : Value) (rr : Nat) (rec : Nat → Int32) (n : Nat) (x : Int32) (lq : Nat) (ps : Nat → Nat) (hn : n * 17 + 17 ≤ rr) (hr2 : rr ≤ 51000) (hw : ∀ j, j < 4 → rec (((n * 17) + 13) + j) = nI (gPk8 ps j (gNl lq j))) (hl36 : lq ≤ 36) (hps6 : ∀ j, j < lq → ps j < 6) : gMi l yX2_stepOf wsP_x_stepOfF ({ frames := 0, cells := 0, slots := 0, locals := 0 }) D cI cB cZ [] [.ref h0, .int (nI n), .int x] [(h0, .inr (2, [v0, v1, v2, v3, .ref a4])), (a4, .inl (cI, rr, .inl rec))] (fun r9 w9 => ∃ z : Int32, (gAn lq ps x z) ∧ r9 = z ∧ w9 = [(h0, .inr (2, [v0, v1, v2, v3, .ref a4])), (a4, .inl (cI, rr, .inl rec))]) := by
  refine gMi.of (cc := cX2_stepOf) (maxL := 4) (ret := (some .int)) (by decide) rfl (Nat.le_of_ble_eq_true rfl) (fun p e s m below meth c A ls hx hb hr hlk hml hts hown hin hA hP hK hD hS hN hl => ?_)
  have hown : s.vm.findClass RX2 = some m.cls := hown
  have hl : lv_has ls 4 [(0, .ref h0), (1, .int (nI n)), (2, .int x)] := hl
  refine lv_iload_n hx hb dX2_stepOf_0 rfl (lv_at hl 2 rfl) ?_
  refine lv_if_lt (tgt := 10) hx hb dX2_stepOf_1 (by decide) (fun c_1 => ?_) (fun c_1 => ?_)
  · refine lv_iconst (v := (-1)) hx hb dX2_stepOf_10 (by decide) ?_
    exact gx_iret (w' := [(h0, .inr (2, [v0, v1, v2, v3, .ref a4])), (a4, .inl (cI, rr, .inl rec))]) hx hb hr hlk hK hP hD hS (Nat.le_of_ble_eq_true rfl) (Nat.le_of_ble_eq_true rfl) dX2_stepOf_11 ⟨(-1), (by first | exact Or.inr ⟨rfl, fun j9 h9 e9 => gq_lt (j := j9) (by omega) (by rw [← e9]; exact c_1)⟩ | exact Or.inr ⟨rfl, fun j9 h9 e9 => gq_gt (j := j9) (n := 38) (by omega) (by decide) (by rw [← e9]; exact c_1)⟩), rfl, rfl⟩
  · refine lv_iload_n hx hb dX2_stepOf_4 rfl (lv_at hl 2 rfl) ?_
    refine lv_bipush (v := 38) hx hb dX2_stepOf_5 (by decide) ?_
    refine lv_icmp_lt (tgt := 12) hx hb dX2_stepOf_7 (by decide) (fun c_2 => ?_) (fun c_2 => ?_)
    · obtain ⟨j, hj, rfl⟩ := gy_inc (c := 38) (by decide) c_1 c_2
      have hl : lv_has ls 4 [(0, .ref h0), (1, .int (nI n)), (2, .int (nI j))] := hl
      refine lv_aload_n hx hb dX2_stepOf_12 rfl (lv_at hl 0 rfl) ?_
      refine va_get (D := D) (ci := 2) (v := .ref a4) (C := RX2) (T := TX2) (N := 5) hx hb hts (fun _ h => List.mem_cons_of_mem _ (List.mem_append_left _ (List.mem_append_right _ h))) hown hK hP 0 rfl rfl 4 (by decide) (hts (.fieldLink RX2 11 "LitmusHall$Findings" "records" "[I") (by decide +kernel)) (fun _ h9 => h9) rfl dX2_stepOf_13 ?_
      refine lv_iload_n hx hb dX2_stepOf_16 rfl (lv_at hl 1 rfl) ?_
      refine lv_bipush (v := 17) hx hb dX2_stepOf_17 (by decide) ?_
      refine lv_imul hx hb dX2_stepOf_19 ?_
      refine gx_top (y := nI (n * 17)) (pk_mul n 17) ?_
      refine lv_bipush (v := 13) hx hb dX2_stepOf_20 (by decide) ?_
      refine lv_iadd hx hb dX2_stepOf_22 ?_
      refine gx_top (y := nI ((n * 17) + 13)) (nI_add (n * 17) 13) ?_
      refine lv_iload_n hx hb dX2_stepOf_23 rfl (lv_at hl 2 rfl) ?_
      refine lv_bipush (v := 10) hx hb dX2_stepOf_24 (by decide) ?_
      refine lv_idiv hx hb dX2_stepOf_26 (by decide) ?_
      refine gx_top (y := nI ((j) / 10)) (gy_div (a := j) (b := 10) (by omega) (by decide)) ?_
      refine lv_iadd hx hb dX2_stepOf_27 ?_
      refine gx_top (y := nI (((n * 17) + 13) + ((j) / 10))) (nI_add ((n * 17) + 13) ((j) / 10)) ?_
      refine gy_ild (i := (((n * 17) + 13) + ((j) / 10))) hx hb hK hP 1 rfl (by omega) (by omega) dX2_stepOf_28 ?_
      refine gx_top (y := nI (gPk8 ps (j / 10) (gNl lq (j / 10)))) (hw (j / 10) (by omega)) ?_
      refine lv_istore_n (lv' := [(3, .int (nI (gPk8 ps (j / 10) (gNl lq (j / 10))))), (0, .ref h0), (1, .int (nI n)), (2, .int (nI j))]) hx hb dX2_stepOf_29 rfl hl (by decide) rfl (fun ls hl => ?_)
      refine lv_iload_n hx hb dX2_stepOf_30 rfl (lv_at hl 0 rfl) ?_
      refine lv_iconst (v := 3) hx hb dX2_stepOf_31 (by decide) ?_
      refine lv_iload_n hx hb dX2_stepOf_32 rfl (lv_at hl 3 rfl) ?_
      refine lv_bipush (v := 10) hx hb dX2_stepOf_33 (by decide) ?_
      refine lv_irem hx hb dX2_stepOf_35 (by decide) ?_
      refine gx_top (y := nI ((j) % 10)) (gy_rem (a := j) (b := 10) (by omega) (by decide)) ?_
      refine lv_imul hx hb dX2_stepOf_36 ?_
      refine gx_top (y := nI (3 * ((j) % 10))) (pk_mul 3 ((j) % 10)) ?_
      refine lv_ishr hx hb dX2_stepOf_37 ?_
      refine gx_top (y := nI (gPk8 ps (j / 10) (gNl lq (j / 10)) / 8 ^ (j % 10))) (gSr8 (gPk8_31 hps6) (by omega)) ?_
      refine lv_bipush (v := 7) hx hb dX2_stepOf_38 (by decide) ?_
      refine lv_iand hx hb dX2_stepOf_40 ?_
      refine gx_top (pk_and (nI (gPk8 ps (j / 10) (gNl lq (j / 10)) / 8 ^ (j % 10))) (m := 7) 3 (by decide +kernel)) ?_
      have hj3 : (nI (gPk8 ps (j / 10) (gNl lq (j / 10)) / 8 ^ (j % 10))).toBitVec.toNat % 8 < 8 := Nat.mod_lt _ (by decide)
      refine lv_iconst (v := 1) hx hb dX2_stepOf_41 (by decide) ?_
      refine lv_isub hx hb dX2_stepOf_42 ?_
      exact gx_iret (w' := [(h0, .inr (2, [v0, v1, v2, v3, .ref a4])), (a4, .inl (cI, rr, .inl rec))]) hx hb hr hlk hK hP hD hS (Nat.le_of_ble_eq_true rfl) (Nat.le_of_ble_eq_true rfl) dX2_stepOf_43 ⟨(nI ((nI (gPk8 ps (j / 10) (gNl lq (j / 10)) / 8 ^ (j % 10))).toBitVec.toNat % 8) - 1), (gAn_w hps6 hl36 (by omega)), rfl, rfl⟩
    · refine lv_iconst (v := (-1)) hx hb dX2_stepOf_10 (by decide) ?_
      exact gx_iret (w' := [(h0, .inr (2, [v0, v1, v2, v3, .ref a4])), (a4, .inl (cI, rr, .inl rec))]) hx hb hr hlk hK hP hD hS (Nat.le_of_ble_eq_true rfl) (Nat.le_of_ble_eq_true rfl) dX2_stepOf_11 ⟨(-1), (by first | exact Or.inr ⟨rfl, fun j9 h9 e9 => gq_lt (j := j9) (by omega) (by rw [← e9]; exact c_2)⟩ | exact Or.inr ⟨rfl, fun j9 h9 e9 => gq_gt (j := j9) (n := 38) (by omega) (by decide) (by rw [← e9]; exact c_2)⟩), rfl, rfl⟩
