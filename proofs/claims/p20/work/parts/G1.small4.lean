
def wsP_x_place8 : List Cond := .code yX8_place cX8_place 1 (some .int) :: (([.fieldLink RX8 20 "LitmusHall" "faultPlace" "I"] ++ wsX80) ++ [])
set_option maxHeartbeats 4000000 in
set_option maxRecDepth 100000 in
theorem x_place8 (l : Launch) (D : va_G) (cI cB cZ : ClassId) (h0 : Nat) (v0 : Value) (v1 : Value) (v2 : Value) (v4 : Value) (v5 : Value) (v6 : Value) (v7 : Value) (v8 : Value) (v9 : Value) (v10 : Value) (v11 : Value) (fp : Int32)  : gMi l yX8_place wsP_x_place8 ({ frames := 0, cells := 0, slots := 0, locals := 0 }) D cI cB cZ [] [.ref h0] [(h0, .inr (8, [v0, v1, v2, .int fp, v4, v5, v6, v7, v8, v9, v10, v11]))] (fun r9 w9 => r9 = fp ∧ w9 = [(h0, .inr (8, [v0, v1, v2, .int fp, v4, v5, v6, v7, v8, v9, v10, v11]))]) := by
  refine gMi.of (cc := cX8_place) (maxL := 1) (ret := (some .int)) (by decide) rfl (Nat.le_of_ble_eq_true rfl) (fun p e s m below meth c A ls hx hb hr hlk hml hts hown hin hA hP hK hD hS hN hl => ?_)
  have hown : s.vm.findClass RX8 = some m.cls := hown
  have hl : lv_has ls 1 [(0, .ref h0)] := hl
  refine lv_aload_n hx hb dX8_place_0 rfl (lv_at hl 0 rfl) ?_
  refine va_get (D := D) (ci := 8) (v := .int fp) (C := RX8) (T := TX8) (N := 12) hx hb hts (fun _ h => List.mem_cons_of_mem _ (List.mem_append_left _ (List.mem_append_right _ h))) hown hK hP 0 rfl rfl 3 (by decide) (hts (.fieldLink RX8 20 "LitmusHall" "faultPlace" "I") (by decide +kernel)) (fun _ h9 => h9) rfl dX8_place_1 ?_
  exact gx_iret (w' := [(h0, .inr (8, [v0, v1, v2, .int fp, v4, v5, v6, v7, v8, v9, v10, v11]))]) hx hb hr hlk hK hP hD hS (Nat.le_of_ble_eq_true rfl) (Nat.le_of_ble_eq_true rfl) dX8_place_4 ⟨rfl, rfl⟩
def wsP_x_place9 : List Cond := .code yX9_place cX9_place 1 (some .int) :: (([.fieldLink RX9 92 "LitmusHallModel" "faultPlace" "I"] ++ wsX90) ++ [])
set_option maxHeartbeats 4000000 in
set_option maxRecDepth 100000 in
theorem x_place9 (l : Launch) (D : va_G) (cI cB cZ : ClassId) (h0 : Nat) (v0 : Value) (v1 : Value) (v2 : Value) (v3 : Value) (v4 : Value) (v5 : Value) (v6 : Value) (v7 : Value) (v8 : Value) (v9 : Value) (v10 : Value) (v11 : Value) (v12 : Value) (v13 : Value) (v14 : Value) (v15 : Value) (v16 : Value) (v17 : Value) (v18 : Value) (v19 : Value) (v20 : Value) (v21 : Value) (v22 : Value) (v23 : Value) (v24 : Value) (v25 : Value) (v26 : Value) (v27 : Value) (v28 : Value) (v29 : Value) (v31 : Value) (v32 : Value) (v33 : Value) (v34 : Value) (v35 : Value) (v36 : Value) (v37 : Value) (v38 : Value) (v39 : Value) (v40 : Value) (v41 : Value) (v42 : Value) (v43 : Value) (v44 : Value) (v45 : Value) (v46 : Value) (v47 : Value) (v48 : Value) (v49 : Value) (v50 : Value) (v51 : Value) (fp : Int32)  : gMi l yX9_place wsP_x_place9 ({ frames := 0, cells := 0, slots := 0, locals := 0 }) D cI cB cZ [] [.ref h0] [(h0, .inr (9, [v0, v1, v2, v3, v4, v5, v6, v7, v8, v9, v10, v11, v12, v13, v14, v15, v16, v17, v18, v19, v20, v21, v22, v23, v24, v25, v26, v27, v28, v29, .int fp, v31, v32, v33, v34, v35, v36, v37, v38, v39, v40, v41, v42, v43, v44, v45, v46, v47, v48, v49, v50, v51]))] (fun r9 w9 => r9 = fp ∧ w9 = [(h0, .inr (9, [v0, v1, v2, v3, v4, v5, v6, v7, v8, v9, v10, v11, v12, v13, v14, v15, v16, v17, v18, v19, v20, v21, v22, v23, v24, v25, v26, v27, v28, v29, .int fp, v31, v32, v33, v34, v35, v36, v37, v38, v39, v40, v41, v42, v43, v44, v45, v46, v47, v48, v49, v50, v51]))]) := by
  refine gMi.of (cc := cX9_place) (maxL := 1) (ret := (some .int)) (by decide) rfl (Nat.le_of_ble_eq_true rfl) (fun p e s m below meth c A ls hx hb hr hlk hml hts hown hin hA hP hK hD hS hN hl => ?_)
  have hown : s.vm.findClass RX9 = some m.cls := hown
  have hl : lv_has ls 1 [(0, .ref h0)] := hl
  refine lv_aload_n hx hb dX9_place_0 rfl (lv_at hl 0 rfl) ?_
  refine va_get (D := D) (ci := 9) (v := .int fp) (C := RX9) (T := TX9) (N := 52) hx hb hts (fun _ h => List.mem_cons_of_mem _ (List.mem_append_left _ (List.mem_append_right _ h))) hown hK hP 0 rfl rfl 30 (by decide) (hts (.fieldLink RX9 92 "LitmusHallModel" "faultPlace" "I") (by decide +kernel)) (fun _ h9 => h9) rfl dX9_place_1 ?_
  exact gx_iret (w' := [(h0, .inr (9, [v0, v1, v2, v3, v4, v5, v6, v7, v8, v9, v10, v11, v12, v13, v14, v15, v16, v17, v18, v19, v20, v21, v22, v23, v24, v25, v26, v27, v28, v29, .int fp, v31, v32, v33, v34, v35, v36, v37, v38, v39, v40, v41, v42, v43, v44, v45, v46, v47, v48, v49, v50, v51]))]) hx hb hr hlk hK hP hD hS (Nat.le_of_ble_eq_true rfl) (Nat.le_of_ble_eq_true rfl) dX9_place_4 ⟨rfl, rfl⟩
def wsP_x_isMode : List Cond := .code yX8_isMode cX8_isMode 1 (some .boolean) :: (([]) ++ [])
theorem gW_x_isMode : wsP_x_isMode.all goodWord = true := by unfold wsP_x_isMode; exact gw_mk (by decide +kernel) rfl
set_option maxHeartbeats 4000000 in
set_option maxRecDepth 100000 in
theorem x_isMode (l : Launch) (D : va_G) (cI cB cZ : ClassId) (x : Int32)  : gMi l yX8_isMode wsP_x_isMode ({ frames := 0, cells := 0, slots := 0, locals := 0 }) D cI cB cZ [] [.int x] [] (fun r9 w9 => ∃ z : Int32, (z = 0 ∨ (z = 1 ∧ (x = 0 ∨ x = 1))) ∧ ((z = 1 ∧ (x = 0 ∨ x = 1)) ∨ (z = 0 ∧ ¬ (x = 0 ∨ x = 1))) ∧ r9 = z ∧ w9 = []) := by
  refine gMi.of (cc := cX8_isMode) (maxL := 1) (ret := (some .boolean)) (by decide) rfl (Nat.le_of_ble_eq_true rfl) (fun p e s m below meth c A ls hx hb hr hlk hml hts hown hin hA hP hK hD hS hN hl => ?_)
  have hown : s.vm.findClass RX8 = some m.cls := hown
  have hl : lv_has ls 1 [(0, .int x)] := hl
  refine lv_iload_n hx hb dX8_isMode_0 rfl (lv_at hl 0 rfl) ?_
  refine lv_if_eq (tgt := 9) hx hb dX8_isMode_1 (by decide) (fun c_1 => ?_) (fun c_1 => ?_)
  · refine lv_iconst (v := 1) hx hb dX8_isMode_9 (by decide) ?_
    refine lv_goto (tgt := 14) hx hb dX8_isMode_10 (by decide) ?_
    exact gx_zret (w' := []) hx hb hr hlk hK hP hD hS (Nat.le_of_ble_eq_true rfl) (Nat.le_of_ble_eq_true rfl) dX8_isMode_14 rfl ⟨1, (by first | exact Or.inl rfl | exact Or.inr ⟨rfl, Or.inl c_1⟩ | exact Or.inr ⟨rfl, Or.inr c_1⟩), (by first | exact Or.inl ⟨rfl, Or.inl c_1⟩ | exact Or.inl ⟨rfl, Or.inr c_1⟩ | exact Or.inr ⟨rfl, fun h => h.elim c_1 c_1⟩), rfl, rfl⟩
  · refine lv_iload_n hx hb dX8_isMode_4 rfl (lv_at hl 0 rfl) ?_
    refine lv_iconst (v := 1) hx hb dX8_isMode_5 (by decide) ?_
    refine lv_icmp_ne (tgt := 13) hx hb dX8_isMode_6 (by decide) (fun c_2 => ?_) (fun c_2 => ?_)
    · refine lv_iconst (v := 0) hx hb dX8_isMode_13 (by decide) ?_
      exact gx_zret (w' := []) hx hb hr hlk hK hP hD hS (Nat.le_of_ble_eq_true rfl) (Nat.le_of_ble_eq_true rfl) dX8_isMode_14 rfl ⟨0, (by first | exact Or.inl rfl | exact Or.inr ⟨rfl, Or.inl c_2⟩ | exact Or.inr ⟨rfl, Or.inr c_2⟩), (by first | exact Or.inl ⟨rfl, Or.inl c_2⟩ | exact Or.inl ⟨rfl, Or.inr c_2⟩ | exact Or.inr ⟨rfl, fun h => h.elim c_1 c_2⟩), rfl, rfl⟩
    · refine lv_iconst (v := 1) hx hb dX8_isMode_9 (by decide) ?_
      refine lv_goto (tgt := 14) hx hb dX8_isMode_10 (by decide) ?_
      exact gx_zret (w' := []) hx hb hr hlk hK hP hD hS (Nat.le_of_ble_eq_true rfl) (Nat.le_of_ble_eq_true rfl) dX8_isMode_14 rfl ⟨1, (by first | exact Or.inl rfl | exact Or.inr ⟨rfl, Or.inl c_2⟩ | exact Or.inr ⟨rfl, Or.inr c_2⟩), (by first | exact Or.inl ⟨rfl, Or.inl c_2⟩ | exact Or.inl ⟨rfl, Or.inr c_2⟩ | exact Or.inr ⟨rfl, fun h => h.elim c_1 c_2⟩), rfl, rfl⟩
theorem gMd_n {x : Int32} (h : x < 0) : ¬ (x = 0 ∨ x = 1) := by
  rintro (e | e) <;> subst e <;> exact absurd h (by decide)
theorem gMd_g {x : Int32} (h : ¬ x ≤ 1) : ¬ (x = 0 ∨ x = 1) := by
  rintro (e | e) <;> subst e <;> exact h (by decide)
theorem gMd_y {x : Int32} (h1 : ¬ x < 0) (h2 : x ≤ 1) : x = 0 ∨ x = 1 := by
  obtain ⟨j, hj, e⟩ := gy_leN (n := 1) (by decide) h1 h2
  rcases (show j = 0 ∨ j = 1 by omega) with q | q <;> subst q
  · exact Or.inl e
  · exact Or.inr e
def wsP_c_step9n : List Cond := .code yX9_step cX9_step 3 (some .boolean) :: (([.fieldLink RX9 84 "LitmusHallModel" "machineMode" "I"] ++ wsX90) ++ [])
set_option maxHeartbeats 4000000 in
set_option maxRecDepth 100000 in
theorem c_step9n (l : Launch) (D : va_G) (cI cB cZ : ClassId) (h0 : Nat) (v0 : Value) (v1 : Value) (v2 : Value) (v3 : Value) (v4 : Value) (v5 : Value) (v6 : Value) (v7 : Value) (v8 : Value) (v9 : Value) (v10 : Value) (v11 : Value) (v12 : Value) (v13 : Value) (v14 : Value) (v15 : Value) (v16 : Value) (v17 : Value) (v18 : Value) (v19 : Value) (v20 : Value) (v21 : Value) (v22 : Value) (v23 : Value) (v24 : Value) (v25 : Value) (v27 : Value) (v28 : Value) (v29 : Value) (v30 : Value) (v31 : Value) (v32 : Value) (v33 : Value) (v34 : Value) (v35 : Value) (v36 : Value) (v37 : Value) (v38 : Value) (v39 : Value) (v40 : Value) (v41 : Value) (v42 : Value) (v43 : Value) (v44 : Value) (v45 : Value) (v46 : Value) (v47 : Value) (v48 : Value) (v49 : Value) (v50 : Value) (v51 : Value) (x : Int32)  : gMi l yX9_step wsP_c_step9n ({ frames := 0, cells := 0, slots := 0, locals := 0 }) D cI cB cZ [] [.ref h0, .int x] [(h0, .inr (9, [v0, v1, v2, v3, v4, v5, v6, v7, v8, v9, v10, v11, v12, v13, v14, v15, v16, v17, v18, v19, v20, v21, v22, v23, v24, v25, .int (-1), v27, v28, v29, v30, v31, v32, v33, v34, v35, v36, v37, v38, v39, v40, v41, v42, v43, v44, v45, v46, v47, v48, v49, v50, v51]))] (fun r9 w9 => r9 = 0 ∧ w9 = [(h0, .inr (9, [v0, v1, v2, v3, v4, v5, v6, v7, v8, v9, v10, v11, v12, v13, v14, v15, v16, v17, v18, v19, v20, v21, v22, v23, v24, v25, .int (-1), v27, v28, v29, v30, v31, v32, v33, v34, v35, v36, v37, v38, v39, v40, v41, v42, v43, v44, v45, v46, v47, v48, v49, v50, v51]))]) := by
  refine gMi.of (cc := cX9_step) (maxL := 3) (ret := (some .boolean)) (by decide) rfl (Nat.le_of_ble_eq_true rfl) (fun p e s m below meth c A ls hx hb hr hlk hml hts hown hin hA hP hK hD hS hN hl => ?_)
  have hown : s.vm.findClass RX9 = some m.cls := hown
  have hl : lv_has ls 3 [(0, .ref h0), (1, .int x)] := hl
  refine lv_aload_n hx hb dX9_step_0 rfl (lv_at hl 0 rfl) ?_
  refine va_get (D := D) (ci := 9) (v := .int (-1)) (C := RX9) (T := TX9) (N := 52) hx hb hts (fun _ h => List.mem_cons_of_mem _ (List.mem_append_left _ (List.mem_append_right _ h))) hown hK hP 0 rfl rfl 26 (by decide) (hts (.fieldLink RX9 84 "LitmusHallModel" "machineMode" "I") (by decide +kernel)) (fun _ h9 => h9) rfl dX9_step_1 ?_
  refine lv_if_ge (tgt := 9) hx hb dX9_step_4 (by decide) (fun c9 => absurd c9 (by decide)) (fun _ => ?_)
  refine lv_iconst (v := 0) hx hb dX9_step_7 (by decide) ?_
  exact gx_zret (w' := [(h0, .inr (9, [v0, v1, v2, v3, v4, v5, v6, v7, v8, v9, v10, v11, v12, v13, v14, v15, v16, v17, v18, v19, v20, v21, v22, v23, v24, v25, .int (-1), v27, v28, v29, v30, v31, v32, v33, v34, v35, v36, v37, v38, v39, v40, v41, v42, v43, v44, v45, v46, v47, v48, v49, v50, v51]))]) hx hb hr hlk hK hP hD hS (Nat.le_of_ble_eq_true rfl) (Nat.le_of_ble_eq_true rfl) dX9_step_8 rfl ⟨rfl, rfl⟩
def wsP_c_undo9n : List Cond := .code yX9_undo cX9_undo 2 (some .boolean) :: (([.fieldLink RX9 84 "LitmusHallModel" "machineMode" "I"] ++ wsX90) ++ [])
set_option maxHeartbeats 4000000 in
set_option maxRecDepth 100000 in
theorem c_undo9n (l : Launch) (D : va_G) (cI cB cZ : ClassId) (h0 : Nat) (v0 : Value) (v1 : Value) (v2 : Value) (v3 : Value) (v4 : Value) (v5 : Value) (v6 : Value) (v7 : Value) (v8 : Value) (v9 : Value) (v10 : Value) (v11 : Value) (v12 : Value) (v13 : Value) (v14 : Value) (v15 : Value) (v16 : Value) (v17 : Value) (v18 : Value) (v19 : Value) (v20 : Value) (v21 : Value) (v22 : Value) (v23 : Value) (v24 : Value) (v25 : Value) (v27 : Value) (v28 : Value) (v29 : Value) (v30 : Value) (v31 : Value) (v32 : Value) (v33 : Value) (v34 : Value) (v35 : Value) (v36 : Value) (v37 : Value) (v38 : Value) (v39 : Value) (v40 : Value) (v41 : Value) (v42 : Value) (v43 : Value) (v44 : Value) (v45 : Value) (v46 : Value) (v47 : Value) (v48 : Value) (v49 : Value) (v50 : Value) (v51 : Value)  : gMi l yX9_undo wsP_c_undo9n ({ frames := 0, cells := 0, slots := 0, locals := 0 }) D cI cB cZ [] [.ref h0] [(h0, .inr (9, [v0, v1, v2, v3, v4, v5, v6, v7, v8, v9, v10, v11, v12, v13, v14, v15, v16, v17, v18, v19, v20, v21, v22, v23, v24, v25, .int (-1), v27, v28, v29, v30, v31, v32, v33, v34, v35, v36, v37, v38, v39, v40, v41, v42, v43, v44, v45, v46, v47, v48, v49, v50, v51]))] (fun r9 w9 => r9 = 0 ∧ w9 = [(h0, .inr (9, [v0, v1, v2, v3, v4, v5, v6, v7, v8, v9, v10, v11, v12, v13, v14, v15, v16, v17, v18, v19, v20, v21, v22, v23, v24, v25, .int (-1), v27, v28, v29, v30, v31, v32, v33, v34, v35, v36, v37, v38, v39, v40, v41, v42, v43, v44, v45, v46, v47, v48, v49, v50, v51]))]) := by
  refine gMi.of (cc := cX9_undo) (maxL := 2) (ret := (some .boolean)) (by decide) rfl (Nat.le_of_ble_eq_true rfl) (fun p e s m below meth c A ls hx hb hr hlk hml hts hown hin hA hP hK hD hS hN hl => ?_)
  have hown : s.vm.findClass RX9 = some m.cls := hown
  have hl : lv_has ls 2 [(0, .ref h0)] := hl
  refine lv_aload_n hx hb dX9_undo_0 rfl (lv_at hl 0 rfl) ?_
  refine va_get (D := D) (ci := 9) (v := .int (-1)) (C := RX9) (T := TX9) (N := 52) hx hb hts (fun _ h => List.mem_cons_of_mem _ (List.mem_append_left _ (List.mem_append_right _ h))) hown hK hP 0 rfl rfl 26 (by decide) (hts (.fieldLink RX9 84 "LitmusHallModel" "machineMode" "I") (by decide +kernel)) (fun _ h9 => h9) rfl dX9_undo_1 ?_
  refine lv_if_lt (tgt := 14) hx hb dX9_undo_4 (by decide) (fun _ => ?_) (fun c9 => absurd (by decide) c9)
  refine lv_iconst (v := 0) hx hb dX9_undo_14 (by decide) ?_
  exact gx_zret (w' := [(h0, .inr (9, [v0, v1, v2, v3, v4, v5, v6, v7, v8, v9, v10, v11, v12, v13, v14, v15, v16, v17, v18, v19, v20, v21, v22, v23, v24, v25, .int (-1), v27, v28, v29, v30, v31, v32, v33, v34, v35, v36, v37, v38, v39, v40, v41, v42, v43, v44, v45, v46, v47, v48, v49, v50, v51]))]) hx hb hr hlk hK hP hD hS (Nat.le_of_ble_eq_true rfl) (Nat.le_of_ble_eq_true rfl) dX9_undo_15 rfl ⟨rfl, rfl⟩
