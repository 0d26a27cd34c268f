
theorem gy_ci {g ci : Nat → Int32} {i : Nat} (h : ∀ c, c < i → g (12 + c) = ci c) : ∀ c, c < i + 1 → upd g (12 + i) (ci i) (12 + c) = ci c := by
  intro c hc
  by_cases e : c = i
  · subst e; exact pk_us
  · rw [pk_un (by omega)]; exact h c (by omega)
def wsP_x_first9 : List Cond := .code yX9_first cX9_first 2 none :: (([.fieldLink RX9 75 "LitmusHallModel" "now" "[I", .fieldLink RX9 40 "LitmusHallModel" "cellInt" "[I"] ++ wsX90) ++ [])
theorem gW_x_first9 : wsP_x_first9.all goodWord = true := by unfold wsP_x_first9; exact gw_mk (by decide +kernel) rfl
set_option maxHeartbeats 4000000 in
set_option maxRecDepth 100000 in
theorem x_first9 (l : Launch) (D : va_G) (cI cB cZ : ClassId) (h0 : Nat) (a10 : Nat) (a22 : Nat) (v0 : Value) (v1 : Value) (v2 : Value) (v3 : Value) (v4 : Value) (v5 : Value) (v6 : Value) (v7 : Value) (v8 : Value) (v9 : Value) (v11 : Value) (v12 : Value) (v13 : Value) (v14 : Value) (v15 : Value) (v16 : Value) (v17 : Value) (v18 : Value) (v19 : Value) (v20 : Value) (v21 : Value) (v23 : Value) (v24 : Value) (v25 : Value) (v26 : Value) (v27 : Value) (v28 : Value) (v29 : Value) (v30 : Value) (v31 : Value) (v32 : Value) (v33 : Value) (v34 : Value) (v35 : Value) (v36 : Value) (v37 : Value) (v38 : Value) (v39 : Value) (v40 : Value) (v41 : Value) (v42 : Value) (v43 : Value) (v44 : Value) (v45 : Value) (v46 : Value) (v47 : Value) (v48 : Value) (v49 : Value) (v50 : Value) (v51 : Value) (ci : Nat → Int32) (nw : Nat → Int32)  : gMv l yX9_first wsP_x_first9 ({ frames := 0, cells := 0, slots := 0, locals := 0 }) D cI cB cZ [] [.ref h0] [(h0, .inr (9, [v0, v1, v2, v3, v4, v5, v6, v7, v8, v9, .ref a10, v11, v12, v13, v14, v15, v16, v17, v18, v19, v20, v21, .ref a22, v23, v24, v25, v26, v27, v28, v29, v30, v31, v32, v33, v34, v35, v36, v37, v38, v39, v40, v41, v42, v43, v44, v45, v46, v47, v48, v49, v50, v51])), (a10, .inl (cI, 12, .inl ci)), (a22, .inl (cI, 58, .inl nw))] (fun w9 => ∃ nw9 : Nat → Int32, (∀ j, j < 58 → (j < 12 ∨ 16 ≤ j) → nw9 j = 0) ∧ (∀ c, c < 4 → nw9 (12 + c) = ci c) ∧ w9 = [(h0, .inr (9, [v0, v1, v2, v3, v4, v5, v6, v7, v8, v9, .ref a10, v11, v12, v13, v14, v15, v16, v17, v18, v19, v20, v21, .ref a22, v23, v24, v25, v26, v27, v28, v29, v30, v31, v32, v33, v34, v35, v36, v37, v38, v39, v40, v41, v42, v43, v44, v45, v46, v47, v48, v49, v50, v51])), (a10, .inl (cI, 12, .inl ci)), (a22, .inl (cI, 58, .inl nw9))]) := by
  refine gMv.of (cc := cX9_first) (maxL := 2) (ret := none) (by decide) rfl (Nat.le_of_ble_eq_true rfl) (fun p e s m below meth c A ls hx hb hr hlk hml hts hown hin hA hP hK hD hS hN hl => ?_)
  have hown : s.vm.findClass RX9 = some m.cls := hown
  have hl : lv_has ls 2 [(0, .ref h0)] := hl
  refine lv_iconst (v := 0) hx hb dX9_first_0 (by decide) ?_
  refine lv_istore_n (lv' := [(1, .int 0), (0, .ref h0)]) hx hb dX9_first_1 rfl hl (by decide) rfl (fun ls hl => ?_)
  refine gy_loop0 (I := fun (x9 : Nat × (Nat → Int32)) H locs ls => (x9.1 ≤ 58) ∧ (∀ j, j < x9.1 → x9.2 j = 0) ∧ va_P D vwCl [(h0, .inr (9, [v0, v1, v2, v3, v4, v5, v6, v7, v8, v9, .ref a10, v11, v12, v13, v14, v15, v16, v17, v18, v19, v20, v21, .ref a22, v23, v24, v25, v26, v27, v28, v29, v30, v31, v32, v33, v34, v35, v36, v37, v38, v39, v40, v41, v42, v43, v44, v45, v46, v47, v48, v49, v50, v51])), (a10, .inl (cI, 12, .inl ci)), (a22, .inl (cI, 58, .inl x9.2))] H ∧ va_D A [(h0, .inr (9, [v0, v1, v2, v3, v4, v5, v6, v7, v8, v9, .ref a10, v11, v12, v13, v14, v15, v16, v17, v18, v19, v20, v21, .ref a22, v23, v24, v25, v26, v27, v28, v29, v30, v31, v32, v33, v34, v35, v36, v37, v38, v39, v40, v41, v42, v43, v44, v45, v46, v47, v48, v49, v50, v51])), (a10, .inl (cI, 12, .inl ci)), (a22, .inl (cI, 58, .inl x9.2))] ∧ va_S A s.heap H locs ∧ lv_has ls 2 [(1, .int (nI x9.1)), (0, .ref h0)]) (μ := fun (x9 : Nat × (Nat → Int32)) => 58 - x9.1) (fun x9 H locs ls hI ih2 => ?_) (0, nw) ⟨(by show 0 ≤ 58; exact Nat.le_of_ble_eq_true rfl), (fun j h => absurd h (Nat.not_lt_zero j)), hP, hD, hS, lv_sub hl [0, 1] rfl⟩
  obtain ⟨i, g⟩ := x9
  obtain ⟨hi2_0, hi2_1, hP, hD, hS, hl⟩ := hI
  have hi2_0 : i ≤ 58 := hi2_0
  have hi2_1 : ∀ j, j < i → g j = 0 := hi2_1
  have hP : va_P D vwCl [(h0, .inr (9, [v0, v1, v2, v3, v4, v5, v6, v7, v8, v9, .ref a10, v11, v12, v13, v14, v15, v16, v17, v18, v19, v20, v21, .ref a22, v23, v24, v25, v26, v27, v28, v29, v30, v31, v32, v33, v34, v35, v36, v37, v38, v39, v40, v41, v42, v43, v44, v45, v46, v47, v48, v49, v50, v51])), (a10, .inl (cI, 12, .inl ci)), (a22, .inl (cI, 58, .inl g))] H := hP
  have hD : va_D A [(h0, .inr (9, [v0, v1, v2, v3, v4, v5, v6, v7, v8, v9, .ref a10, v11, v12, v13, v14, v15, v16, v17, v18, v19, v20, v21, .ref a22, v23, v24, v25, v26, v27, v28, v29, v30, v31, v32, v33, v34, v35, v36, v37, v38, v39, v40, v41, v42, v43, v44, v45, v46, v47, v48, v49, v50, v51])), (a10, .inl (cI, 12, .inl ci)), (a22, .inl (cI, 58, .inl g))] := hD
  have hS : va_S A s.heap H locs := hS
  have hl : lv_has ls 2 [(1, .int (nI i)), (0, .ref h0)] := hl
  refine lv_iload_n hx hb dX9_first_2 rfl (lv_at hl 0 rfl) ?_
  refine lv_bipush (v := 58) hx hb dX9_first_3 (by decide) ?_
  refine gy_ge (a := i) (b := 58) (tgt := 21) hx hb (by omega) (by omega) dX9_first_5 (by decide) (fun c_1 => ?_) (fun c_1 => ?_)
  · refine lv_iconst (v := 0) hx hb dX9_first_21 (by decide) ?_
    refine lv_istore_n (lv' := [(1, .int 0), (0, .ref h0)]) hx hb dX9_first_22 rfl hl (by decide) rfl (fun ls hl => ?_)
    refine gy_loop0 (I := fun (x9 : Nat × (Nat → Int32)) H locs ls => (x9.1 ≤ 4) ∧ (∀ j, j < 58 → (j < 12 ∨ 16 ≤ j) → x9.2 j = 0) ∧ (∀ c, c < x9.1 → x9.2 (12 + c) = ci c) ∧ va_P D vwCl [(h0, .inr (9, [v0, v1, v2, v3, v4, v5, v6, v7, v8, v9, .ref a10, v11, v12, v13, v14, v15, v16, v17, v18, v19, v20, v21, .ref a22, v23, v24, v25, v26, v27, v28, v29, v30, v31, v32, v33, v34, v35, v36, v37, v38, v39, v40, v41, v42, v43, v44, v45, v46, v47, v48, v49, v50, v51])), (a10, .inl (cI, 12, .inl ci)), (a22, .inl (cI, 58, .inl x9.2))] H ∧ va_D A [(h0, .inr (9, [v0, v1, v2, v3, v4, v5, v6, v7, v8, v9, .ref a10, v11, v12, v13, v14, v15, v16, v17, v18, v19, v20, v21, .ref a22, v23, v24, v25, v26, v27, v28, v29, v30, v31, v32, v33, v34, v35, v36, v37, v38, v39, v40, v41, v42, v43, v44, v45, v46, v47, v48, v49, v50, v51])), (a10, .inl (cI, 12, .inl ci)), (a22, .inl (cI, 58, .inl x9.2))] ∧ va_S A s.heap H locs ∧ lv_has ls 2 [(1, .int (nI x9.1)), (0, .ref h0)]) (μ := fun (x9 : Nat × (Nat → Int32)) => 4 - x9.1) (fun x9 H locs ls hI ih23 => ?_) (0, g) ⟨(by show 0 ≤ 4; exact Nat.le_of_ble_eq_true rfl), (fun j h _ => hi2_1 j (by omega)), (fun c h => absurd h (Nat.not_lt_zero c)), hP, hD, hS, lv_sub hl [0, 1] rfl⟩
    obtain ⟨i, g⟩ := x9
    obtain ⟨hi23_0, hi23_1, hi23_2, hP, hD, hS, hl⟩ := hI
    have hi23_0 : i ≤ 4 := hi23_0
    have hi23_1 : ∀ j, j < 58 → (j < 12 ∨ 16 ≤ j) → g j = 0 := hi23_1
    have hi23_2 : ∀ c, c < i → g (12 + c) = ci c := hi23_2
    have hP : va_P D vwCl [(h0, .inr (9, [v0, v1, v2, v3, v4, v5, v6, v7, v8, v9, .ref a10, v11, v12, v13, v14, v15, v16, v17, v18, v19, v20, v21, .ref a22, v23, v24, v25, v26, v27, v28, v29, v30, v31, v32, v33, v34, v35, v36, v37, v38, v39, v40, v41, v42, v43, v44, v45, v46, v47, v48, v49, v50, v51])), (a10, .inl (cI, 12, .inl ci)), (a22, .inl (cI, 58, .inl g))] H := hP
    have hD : va_D A [(h0, .inr (9, [v0, v1, v2, v3, v4, v5, v6, v7, v8, v9, .ref a10, v11, v12, v13, v14, v15, v16, v17, v18, v19, v20, v21, .ref a22, v23, v24, v25, v26, v27, v28, v29, v30, v31, v32, v33, v34, v35, v36, v37, v38, v39, v40, v41, v42, v43, v44, v45, v46, v47, v48, v49, v50, v51])), (a10, .inl (cI, 12, .inl ci)), (a22, .inl (cI, 58, .inl g))] := hD
    have hS : va_S A s.heap H locs := hS
    have hl : lv_has ls 2 [(1, .int (nI i)), (0, .ref h0)] := hl
    refine lv_iload_n hx hb dX9_first_23 rfl (lv_at hl 0 rfl) ?_
    refine lv_iconst (v := 4) hx hb dX9_first_24 (by decide) ?_
    refine gy_ge (a := i) (b := 4) (tgt := 49) hx hb (by omega) (by omega) dX9_first_25 (by decide) (fun c_2 => ?_) (fun c_2 => ?_)
    · exact gx_vret (w' := [(h0, .inr (9, [v0, v1, v2, v3, v4, v5, v6, v7, v8, v9, .ref a10, v11, v12, v13, v14, v15, v16, v17, v18, v19, v20, v21, .ref a22, v23, v24, v25, v26, v27, v28, v29, v30, v31, v32, v33, v34, v35, v36, v37, v38, v39, v40, v41, v42, v43, v44, v45, v46, v47, v48, v49, v50, v51])), (a10, .inl (cI, 12, .inl ci)), (a22, .inl (cI, 58, .inl g))]) hx hb hr hlk hK hP hD hS (Nat.le_of_ble_eq_true rfl) (Nat.le_of_ble_eq_true rfl) dX9_first_49 ⟨g, hi23_1, (fun c h => hi23_2 c (by omega)), rfl⟩
    · refine lv_aload_n hx hb dX9_first_28 rfl (lv_at hl 1 rfl) ?_
      refine va_get (D := D) (ci := 9) (v := .ref a22) (C := RX9) (T := TX9) (N := 52) hx hb hts (fun _ h => List.mem_cons_of_mem _ (List.mem_append_left _ (List.mem_append_right _ h))) hown hK hP 0 rfl rfl 22 (by decide) (hts (.fieldLink RX9 75 "LitmusHallModel" "now" "[I") (by decide +kernel)) (fun _ h9 => h9) rfl dX9_first_29 ?_
      refine lv_bipush (v := 12) hx hb dX9_first_32 (by decide) ?_
      refine lv_iload_n hx hb dX9_first_34 rfl (lv_at hl 0 rfl) ?_
      refine lv_iadd hx hb dX9_first_35 ?_
      refine gx_top (y := nI (12 + i)) (nI_add 12 i) ?_
      refine lv_aload_n hx hb dX9_first_36 rfl (lv_at hl 1 rfl) ?_
      refine va_get (D := D) (ci := 9) (v := .ref a10) (C := RX9) (T := TX9) (N := 52) hx hb hts (fun _ h => List.mem_cons_of_mem _ (List.mem_append_left _ (List.mem_append_right _ h))) hown hK hP 0 rfl rfl 10 (by decide) (hts (.fieldLink RX9 40 "LitmusHallModel" "cellInt" "[I") (by decide +kernel)) (fun _ h9 => h9) rfl dX9_first_37 ?_
      refine lv_iload_n hx hb dX9_first_40 rfl (lv_at hl 0 rfl) ?_
      refine gy_ild (i := i) hx hb hK hP 1 rfl (by omega) (by omega) dX9_first_41 ?_
      refine gy_ist (i := (12 + i)) hx hb hK hP hD hS 2 rfl (by omega) (by omega) dX9_first_42 (fun H locs hP hD hS => ?_)
      have hP : va_P D vwCl [(h0, .inr (9, [v0, v1, v2, v3, v4, v5, v6, v7, v8, v9, .ref a10, v11, v12, v13, v14, v15, v16, v17, v18, v19, v20, v21, .ref a22, v23, v24, v25, v26, v27, v28, v29, v30, v31, v32, v33, v34, v35, v36, v37, v38, v39, v40, v41, v42, v43, v44, v45, v46, v47, v48, v49, v50, v51])), (a10, .inl (cI, 12, .inl ci)), (a22, .inl (cI, 58, .inl (upd g (12 + i) (ci i))))] H := hP
      have hD : va_D A [(h0, .inr (9, [v0, v1, v2, v3, v4, v5, v6, v7, v8, v9, .ref a10, v11, v12, v13, v14, v15, v16, v17, v18, v19, v20, v21, .ref a22, v23, v24, v25, v26, v27, v28, v29, v30, v31, v32, v33, v34, v35, v36, v37, v38, v39, v40, v41, v42, v43, v44, v45, v46, v47, v48, v49, v50, v51])), (a10, .inl (cI, 12, .inl ci)), (a22, .inl (cI, 58, .inl (upd g (12 + i) (ci i))))] := hD
      refine lv_iinc (v := nI (i + 1)) (lv' := [(1, .int (nI (i + 1))), (0, .ref h0)]) hx hb dX9_first_43 hl (k := 0) rfl (nI_add i 1) (by decide) rfl (fun ls hl => ?_)
      refine lv_goto (tgt := 23) hx hb dX9_first_46 (by decide) ?_
      exact ih23 ((i + 1), (upd g (12 + i) (ci i))) H locs ls ⟨(by show (i + 1) ≤ 4; omega), (gy_z4 hi23_1 (by omega)), (gy_ci hi23_2), hP, hD, hS, lv_sub hl [0, 1] rfl⟩ (by show 4 - (i + 1) < 4 - i; omega)
  · refine lv_aload_n hx hb dX9_first_8 rfl (lv_at hl 1 rfl) ?_
    refine va_get (D := D) (ci := 9) (v := .ref a22) (C := RX9) (T := TX9) (N := 52) hx hb hts (fun _ h => List.mem_cons_of_mem _ (List.mem_append_left _ (List.mem_append_right _ h))) hown hK hP 0 rfl rfl 22 (by decide) (hts (.fieldLink RX9 75 "LitmusHallModel" "now" "[I") (by decide +kernel)) (fun _ h9 => h9) rfl dX9_first_9 ?_
    refine lv_iload_n hx hb dX9_first_12 rfl (lv_at hl 0 rfl) ?_
    refine lv_iconst (v := 0) hx hb dX9_first_13 (by decide) ?_
    refine gy_ist (i := i) hx hb hK hP hD hS 2 rfl (by omega) (by omega) dX9_first_14 (fun H locs hP hD hS => ?_)
    have hP : va_P D vwCl [(h0, .inr (9, [v0, v1, v2, v3, v4, v5, v6, v7, v8, v9, .ref a10, v11, v12, v13, v14, v15, v16, v17, v18, v19, v20, v21, .ref a22, v23, v24, v25, v26, v27, v28, v29, v30, v31, v32, v33, v34, v35, v36, v37, v38, v39, v40, v41, v42, v43, v44, v45, v46, v47, v48, v49, v50, v51])), (a10, .inl (cI, 12, .inl ci)), (a22, .inl (cI, 58, .inl (upd g i 0)))] H := hP
    have hD : va_D A [(h0, .inr (9, [v0, v1, v2, v3, v4, v5, v6, v7, v8, v9, .ref a10, v11, v12, v13, v14, v15, v16, v17, v18, v19, v20, v21, .ref a22, v23, v24, v25, v26, v27, v28, v29, v30, v31, v32, v33, v34, v35, v36, v37, v38, v39, v40, v41, v42, v43, v44, v45, v46, v47, v48, v49, v50, v51])), (a10, .inl (cI, 12, .inl ci)), (a22, .inl (cI, 58, .inl (upd g i 0)))] := hD
    refine lv_iinc (v := nI (i + 1)) (lv' := [(1, .int (nI (i + 1))), (0, .ref h0)]) hx hb dX9_first_15 hl (k := 0) rfl (nI_add i 1) (by decide) rfl (fun ls hl => ?_)
    refine lv_goto (tgt := 2) hx hb dX9_first_18 (by decide) ?_
    exact ih2 ((i + 1), (upd g i 0)) H locs ls ⟨(by show (i + 1) ≤ 58; omega), (gy_fillp hi2_1), hP, hD, hS, lv_sub hl [0, 1] rfl⟩ (by show 58 - (i + 1) < 58 - i; omega)
def wsP_x_taken9 : List Cond := .code yX9_taken cX9_taken 4 (some .int) :: (([.fieldLink RX9 75 "LitmusHallModel" "now" "[I"] ++ wsX90) ++ [])
theorem gW_x_taken9 : wsP_x_taken9.all goodWord = true := by unfold wsP_x_taken9; exact gw_mk (by decide +kernel) rfl
set_option maxHeartbeats 4000000 in
set_option maxRecDepth 100000 in
theorem x_taken9 (l : Launch) (D : va_G) (cI cB cZ : ClassId) (h0 : Nat) (a22 : Nat) (v0 : Value) (v1 : Value) (v2 : Value) (v3 : Value) (v4 : Value) (v5 : Value) (v6 : Value) (v7 : Value) (v8 : Value) (v9 : Value) (v10 : Value) (v11 : Value) (v12 : Value) (v13 : Value) (v14 : Value) (v15 : Value) (v16 : Value) (v17 : Value) (v18 : Value) (v19 : Value) (v20 : Value) (v21 : Value) (v23 : Value) (v24 : Value) (v25 : Value) (v26 : Value) (v27 : Value) (v28 : Value) (v29 : Value) (v30 : Value) (v31 : Value) (v32 : Value) (v33 : Value) (v34 : Value) (v35 : Value) (v36 : Value) (v37 : Value) (v38 : Value) (v39 : Value) (v40 : Value) (v41 : Value) (v42 : Value) (v43 : Value) (v44 : Value) (v45 : Value) (v46 : Value) (v47 : Value) (v48 : Value) (v49 : Value) (v50 : Value) (v51 : Value) (nw : Nat → Int32) (k : Nat) (r : Int32) (v : Int32) (hk : k < 3) (hr0 : r = (-1) ∨ ∃ q, q < 3 ∧ r = nI q) : gMi l yX9_taken wsP_x_taken9 ({ frames := 0, cells := 0, slots := 0, locals := 0 }) D cI cB cZ [] [.ref h0, .int (nI k), .int r, .int v] [(h0, .inr (9, [v0, v1, v2, v3, v4, v5, v6, v7, v8, v9, v10, v11, v12, v13, v14, v15, v16, v17, v18, v19, v20, v21, .ref a22, v23, v24, v25, v26, v27, v28, v29, v30, v31, v32, v33, v34, v35, v36, v37, v38, v39, v40, v41, v42, v43, v44, v45, v46, v47, v48, v49, v50, v51])), (a22, .inl (cI, 58, .inl nw))] (fun r9 w9 => ∃ z : Int32, (z = rTk nw k r v) ∧ r9 = z ∧ w9 = [(h0, .inr (9, [v0, v1, v2, v3, v4, v5, v6, v7, v8, v9, v10, v11, v12, v13, v14, v15, v16, v17, v18, v19, v20, v21, .ref a22, v23, v24, v25, v26, v27, v28, v29, v30, v31, v32, v33, v34, v35, v36, v37, v38, v39, v40, v41, v42, v43, v44, v45, v46, v47, v48, v49, v50, v51])), (a22, .inl (cI, 58, .inl nw))]) := by
  refine gMi.of (cc := cX9_taken) (maxL := 4) (ret := (some .int)) (by decide) rfl (Nat.le_of_ble_eq_true rfl) (fun p e s m below meth c A ls hx hb hr hlk hml hts hown hin hA hP hK hD hS hN hl => ?_)
  have hown : s.vm.findClass RX9 = some m.cls := hown
  have hl : lv_has ls 4 [(0, .ref h0), (1, .int (nI k)), (2, .int r), (3, .int v)] := hl
  refine lv_iload_n hx hb dX9_taken_0 rfl (lv_at hl 2 rfl) ?_
  refine lv_if_ge (tgt := 8) hx hb dX9_taken_1 (by decide) (fun c_1 => ?_) (fun c_1 => ?_)
  · obtain ⟨q, hq, rfl⟩ := hr0.resolve_left (fun e9 => absurd c_1 (by rw [e9]; decide))
    have hl : lv_has ls 4 [(0, .ref h0), (1, .int (nI k)), (2, .int (nI q)), (3, .int v)] := hl
    refine lv_aload_n hx hb dX9_taken_8 rfl (lv_at hl 0 rfl) ?_
    refine va_get (D := D) (ci := 9) (v := .ref a22) (C := RX9) (T := TX9) (N := 52) hx hb hts (fun _ h => List.mem_cons_of_mem _ (List.mem_append_left _ (List.mem_append_right _ h))) hown hK hP 0 rfl rfl 22 (by decide) (hts (.fieldLink RX9 75 "LitmusHallModel" "now" "[I") (by decide +kernel)) (fun _ h9 => h9) rfl dX9_taken_9 ?_
    refine lv_iconst (v := 3) hx hb dX9_taken_12 (by decide) ?_
    refine lv_iconst (v := 3) hx hb dX9_taken_13 (by decide) ?_
    refine lv_iload_n hx hb dX9_taken_14 rfl (lv_at hl 1 rfl) ?_
    refine lv_imul hx hb dX9_taken_15 ?_
    refine gx_top (y := nI (3 * k)) (pk_mul 3 k) ?_
    refine lv_iadd hx hb dX9_taken_16 ?_
    refine gx_top (y := nI (3 + (3 * k))) (nI_add 3 (3 * k)) ?_
    refine lv_iload_n hx hb dX9_taken_17 rfl (lv_at hl 2 rfl) ?_
    refine lv_iadd hx hb dX9_taken_18 ?_
    refine gx_top (y := nI ((3 + (3 * k)) + q)) (nI_add (3 + (3 * k)) q) ?_
    refine gy_ild (i := ((3 + (3 * k)) + q)) hx hb hK hP 1 rfl (by omega) (by omega) dX9_taken_19 ?_
    exact gx_iret (w' := [(h0, .inr (9, [v0, v1, v2, v3, v4, v5, v6, v7, v8, v9, v10, v11, v12, v13, v14, v15, v16, v17, v18, v19, v20, v21, .ref a22, v23, v24, v25, v26, v27, v28, v29, v30, v31, v32, v33, v34, v35, v36, v37, v38, v39, v40, v41, v42, v43, v44, v45, v46, v47, v48, v49, v50, v51])), (a22, .inl (cI, 58, .inl nw))]) hx hb hr hlk hK hP hD hS (Nat.le_of_ble_eq_true rfl) (Nat.le_of_ble_eq_true rfl) dX9_taken_20 ⟨(nw ((3 + (3 * k)) + q)), (by unfold rTk; first | (rw [if_pos (Int32.not_le.mp c_1)]; done) | (rw [if_neg (nI_pos (by omega)), nI_clamp (by omega)]; done)), rfl, rfl⟩
  · refine lv_iload_n hx hb dX9_taken_4 rfl (lv_at hl 3 rfl) ?_
    refine lv_goto (tgt := 20) hx hb dX9_taken_5 (by decide) ?_
    exact gx_iret (w' := [(h0, .inr (9, [v0, v1, v2, v3, v4, v5, v6, v7, v8, v9, v10, v11, v12, v13, v14, v15, v16, v17, v18, v19, v20, v21, .ref a22, v23, v24, v25, v26, v27, v28, v29, v30, v31, v32, v33, v34, v35, v36, v37, v38, v39, v40, v41, v42, v43, v44, v45, v46, v47, v48, v49, v50, v51])), (a22, .inl (cI, 58, .inl nw))]) hx hb hr hlk hK hP hD hS (Nat.le_of_ble_eq_true rfl) (Nat.le_of_ble_eq_true rfl) dX9_taken_20 ⟨v, (by unfold rTk; first | (rw [if_pos (Int32.not_le.mp c_1)]; done) | (rw [if_neg (nI_pos (by omega)), nI_clamp (by omega)]; done)), rfl, rfl⟩
def wsP_x_loaded9 : List Cond := .code yX9_loaded cX9_loaded 5 (some .int) :: (([.methodLink RX9 267 yX9_rowAt, .static yX9_rowAt, .initialized yX9_rowAt.cls, .fieldLink RX9 75 "LitmusHallModel" "now" "[I"] ++ wsX90) ++ (wsP_c_rowAt9 ++ []))
theorem gW_x_loaded9 : wsP_x_loaded9.all goodWord = true := by unfold wsP_x_loaded9; exact gw_mk (by decide +kernel) (gw_app gW_c_rowAt9 rfl)
set_option maxRecDepth 20000 in
theorem gP_x_loaded9__c_rowAt9 : GoodIn wsP_x_loaded9 (va_wsS RX9 267 yX9_rowAt wsP_c_rowAt9) := gw_in (pre := [.methodLink RX9 267 yX9_rowAt, .static yX9_rowAt, .initialized yX9_rowAt.cls]) (by decide +kernel) (fun _ h => List.mem_cons_of_mem _ (List.mem_append_right _ (List.mem_append_left _ h))) gW_c_rowAt9
set_option maxHeartbeats 4000000 in
set_option maxRecDepth 100000 in
theorem x_loaded9 (l : Launch) (D : va_G) (cI cB cZ : ClassId) (h0 : Nat) (a22 : Nat) (v0 : Value) (v1 : Value) (v2 : Value) (v3 : Value) (v4 : Value) (v5 : Value) (v6 : Value) (v7 : Value) (v8 : Value) (v9 : Value) (v10 : Value) (v11 : Value) (v12 : Value) (v13 : Value) (v14 : Value) (v15 : Value) (v16 : Value) (v17 : Value) (v18 : Value) (v19 : Value) (v20 : Value) (v21 : Value) (v23 : Value) (v24 : Value) (v25 : Value) (v26 : Value) (v27 : Value) (v28 : Value) (v29 : Value) (v30 : Value) (v31 : Value) (v32 : Value) (v33 : Value) (v34 : Value) (v35 : Value) (v36 : Value) (v37 : Value) (v38 : Value) (v39 : Value) (v40 : Value) (v41 : Value) (v42 : Value) (v43 : Value) (v44 : Value) (v45 : Value) (v46 : Value) (v47 : Value) (v48 : Value) (v49 : Value) (v50 : Value) (v51 : Value) (nw : Nat → Int32) (nx : Nat → Nat) (rz : Nat → Nat) (k : Nat) (x : Nat) (hk : k < 3) (hx0 : x < 4) (hG : gW9 nw nx rz) : gMi l yX9_loaded wsP_x_loaded9 ({ frames := 1, cells := 0, slots := 0, locals := 20 }) D cI cB cZ [] [.ref h0, .int (nI k), .int (nI x)] [(h0, .inr (9, [v0, v1, v2, v3, v4, v5, v6, v7, v8, v9, v10, v11, v12, v13, v14, v15, v16, v17, v18, v19, v20, v21, .ref a22, v23, v24, v25, v26, v27, v28, v29, v30, v31, v32, v33, v34, v35, v36, v37, v38, v39, v40, v41, v42, v43, v44, v45, v46, v47, v48, v49, v50, v51])), (a22, .inl (cI, 58, .inl nw))] (fun r9 w9 => ∃ z : Int32, (z = rLd nw k x (rz k)) ∧ r9 = z ∧ w9 = [(h0, .inr (9, [v0, v1, v2, v3, v4, v5, v6, v7, v8, v9, v10, v11, v12, v13, v14, v15, v16, v17, v18, v19, v20, v21, .ref a22, v23, v24, v25, v26, v27, v28, v29, v30, v31, v32, v33, v34, v35, v36, v37, v38, v39, v40, v41, v42, v43, v44, v45, v46, v47, v48, v49, v50, v51])), (a22, .inl (cI, 58, .inl nw))]) := by
  refine gMi.of (cc := cX9_loaded) (maxL := 5) (ret := (some .int)) (by decide) rfl (Nat.le_of_ble_eq_true rfl) (fun p e s m below meth c A ls hx hb hr hlk hml hts hown hin hA hP hK hD hS hN hl => ?_)
  have hown : s.vm.findClass RX9 = some m.cls := hown
  have hl : lv_has ls 5 [(0, .ref h0), (1, .int (nI k)), (2, .int (nI x))] := hl
  obtain ⟨e1, e2, e3, e4, e5⟩ := hG (k) (by omega)
  refine lv_iload_n hx hb dX9_loaded_0 rfl (lv_at hl 1 rfl) ?_
  refine gx_goi (wc := []) (wr := [(h0, .inr (9, [v0, v1, v2, v3, v4, v5, v6, v7, v8, v9, v10, v11, v12, v13, v14, v15, v16, v17, v18, v19, v20, v21, .ref a22, v23, v24, v25, v26, v27, v28, v29, v30, v31, v32, v33, v34, v35, v36, v37, v38, v39, v40, v41, v42, v43, v44, v45, v46, v47, v48, v49, v50, v51])), (a22, .inl (cI, 58, .inl nw))]) (va_runS (As := [.int (nI k)]) (rest := []) ⟨hx, hb, hml, hown, hts⟩ (c_rowAt9 l D cI cB cZ k _) (va_cwS 1 hts gP_x_loaded9__c_rowAt9 rfl rfl rfl (by decide +kernel) ⟨Nat.le_of_ble_eq_true rfl, Nat.le_of_ble_eq_true rfl⟩) (gx_preS hK gN.nil hP hD [] rfl rfl) rfl rfl hl.1 rfl (lv_room (Nat.le_of_ble_eq_true rfl)) dX9_loaded_1 ⟨Nat.le_of_ble_eq_true rfl, Nat.le_of_ble_eq_true rfl⟩) hP hD hS hA [] [0, 1] rfl rfl rfl (by decide) (fun r1 w1 H locs hp hP hD hS => ?_)
  obtain ⟨h9, rfl⟩ := hp
  have h9 := h9.symm
  subst h9
  refine lv_istore_n (lv' := [(3, .int (nI (16 + (13 * k)))), (0, .ref h0), (1, .int (nI k)), (2, .int (nI x))]) hx hb dX9_loaded_4 rfl hl (by decide) rfl (fun ls hl => ?_)
  refine lv_aload_n hx hb dX9_loaded_5 rfl (lv_at hl 1 rfl) ?_
  refine va_get (D := D) (ci := 9) (v := .ref a22) (C := RX9) (T := TX9) (N := 52) hx hb hts (fun _ h => List.mem_cons_of_mem _ (List.mem_append_left _ (List.mem_append_right _ h))) hown hK hP 0 rfl rfl 22 (by decide) (hts (.fieldLink RX9 75 "LitmusHallModel" "now" "[I") (by decide +kernel)) (fun _ h9 => h9) rfl dX9_loaded_6 ?_
  refine lv_iload_n hx hb dX9_loaded_9 rfl (lv_at hl 0 rfl) ?_
  refine gy_ild (i := (16 + (13 * k))) hx hb hK hP 1 rfl (by omega) (by omega) dX9_loaded_10 ?_
  refine gx_top (y := nI (rz k)) e2 ?_
  refine lv_iconst (v := 1) hx hb dX9_loaded_11 (by decide) ?_
  refine lv_isub hx hb dX9_loaded_12 ?_
  refine lv_istore (lv' := [(4, .int (nI (rz k) - 1)), (3, .int (nI (16 + (13 * k)))), (0, .ref h0), (1, .int (nI k)), (2, .int (nI x))]) hx hb dX9_loaded_13 hl (by decide) rfl (fun ls hl => ?_)
  have hP : va_P D vwCl [(h0, .inr (9, [v0, v1, v2, v3, v4, v5, v6, v7, v8, v9, v10, v11, v12, v13, v14, v15, v16, v17, v18, v19, v20, v21, .ref a22, v23, v24, v25, v26, v27, v28, v29, v30, v31, v32, v33, v34, v35, v36, v37, v38, v39, v40, v41, v42, v43, v44, v45, v46, v47, v48, v49, v50, v51])), (a22, .inl (cI, 58, .inl nw))] H := hP
  have hD : va_D A [(h0, .inr (9, [v0, v1, v2, v3, v4, v5, v6, v7, v8, v9, v10, v11, v12, v13, v14, v15, v16, v17, v18, v19, v20, v21, .ref a22, v23, v24, v25, v26, v27, v28, v29, v30, v31, v32, v33, v34, v35, v36, v37, v38, v39, v40, v41, v42, v43, v44, v45, v46, v47, v48, v49, v50, v51])), (a22, .inl (cI, 58, .inl nw))] := hD
  refine gy_loop0 (I := fun (x9 : Nat) H locs ls => (x9 ≤ 6) ∧ (rLd nw k x (rz k) = rLd nw k x x9) ∧ va_P D vwCl [(h0, .inr (9, [v0, v1, v2, v3, v4, v5, v6, v7, v8, v9, v10, v11, v12, v13, v14, v15, v16, v17, v18, v19, v20, v21, .ref a22, v23, v24, v25, v26, v27, v28, v29, v30, v31, v32, v33, v34, v35, v36, v37, v38, v39, v40, v41, v42, v43, v44, v45, v46, v47, v48, v49, v50, v51])), (a22, .inl (cI, 58, .inl nw))] H ∧ va_D A [(h0, .inr (9, [v0, v1, v2, v3, v4, v5, v6, v7, v8, v9, v10, v11, v12, v13, v14, v15, v16, v17, v18, v19, v20, v21, .ref a22, v23, v24, v25, v26, v27, v28, v29, v30, v31, v32, v33, v34, v35, v36, v37, v38, v39, v40, v41, v42, v43, v44, v45, v46, v47, v48, v49, v50, v51])), (a22, .inl (cI, 58, .inl nw))] ∧ va_S A s.heap H locs ∧ lv_has ls 5 [(4, .int (nI x9 - 1)), (3, .int (nI (16 + (13 * k)))), (0, .ref h0), (1, .int (nI k)), (2, .int (nI x))]) (μ := fun (x9 : Nat) => x9) (fun x9 H locs ls hI ih15 => ?_) (rz k) ⟨e4, rfl, hP, hD, hS, lv_sub hl [0, 1, 2, 3, 4] rfl⟩
  obtain ⟨i, rfl⟩ : ∃ z9, z9 = x9 := ⟨_, rfl⟩
  obtain ⟨hi15_0, hi15_1, hP, hD, hS, hl⟩ := hI
  have hi15_0 : i ≤ 6 := hi15_0
  have hi15_1 : rLd nw k x (rz k) = rLd nw k x i := hi15_1
  have hP : va_P D vwCl [(h0, .inr (9, [v0, v1, v2, v3, v4, v5, v6, v7, v8, v9, v10, v11, v12, v13, v14, v15, v16, v17, v18, v19, v20, v21, .ref a22, v23, v24, v25, v26, v27, v28, v29, v30, v31, v32, v33, v34, v35, v36, v37, v38, v39, v40, v41, v42, v43, v44, v45, v46, v47, v48, v49, v50, v51])), (a22, .inl (cI, 58, .inl nw))] H := hP
  have hD : va_D A [(h0, .inr (9, [v0, v1, v2, v3, v4, v5, v6, v7, v8, v9, v10, v11, v12, v13, v14, v15, v16, v17, v18, v19, v20, v21, .ref a22, v23, v24, v25, v26, v27, v28, v29, v30, v31, v32, v33, v34, v35, v36, v37, v38, v39, v40, v41, v42, v43, v44, v45, v46, v47, v48, v49, v50, v51])), (a22, .inl (cI, 58, .inl nw))] := hD
  have hS : va_S A s.heap H locs := hS
  have hl : lv_has ls 5 [(4, .int (nI i - 1)), (3, .int (nI (16 + (13 * k)))), (0, .ref h0), (1, .int (nI k)), (2, .int (nI x))] := hl
  refine lv_iload hx hb dX9_loaded_15 (lv_at hl 0 rfl) ?_
  refine lv_if_lt (tgt := 57) hx hb dX9_loaded_17 (by decide) (fun c_1 => ?_) (fun c_1 => ?_)
  · have c_1 : i = 0 := gy_m1z (by omega) c_1
    refine lv_aload_n hx hb dX9_loaded_57 rfl (lv_at hl 2 rfl) ?_
    refine va_get (D := D) (ci := 9) (v := .ref a22) (C := RX9) (T := TX9) (N := 52) hx hb hts (fun _ h => List.mem_cons_of_mem _ (List.mem_append_left _ (List.mem_append_right _ h))) hown hK hP 0 rfl rfl 22 (by decide) (hts (.fieldLink RX9 75 "LitmusHallModel" "now" "[I") (by decide +kernel)) (fun _ h9 => h9) rfl dX9_loaded_58 ?_
    refine lv_bipush (v := 12) hx hb dX9_loaded_61 (by decide) ?_
    refine lv_iload_n hx hb dX9_loaded_63 rfl (lv_at hl 4 rfl) ?_
    refine lv_iadd hx hb dX9_loaded_64 ?_
    refine gx_top (y := nI (12 + x)) (nI_add 12 x) ?_
    refine gy_ild (i := (12 + x)) hx hb hK hP 1 rfl (by omega) (by omega) dX9_loaded_65 ?_
    exact gx_iret (w' := [(h0, .inr (9, [v0, v1, v2, v3, v4, v5, v6, v7, v8, v9, v10, v11, v12, v13, v14, v15, v16, v17, v18, v19, v20, v21, .ref a22, v23, v24, v25, v26, v27, v28, v29, v30, v31, v32, v33, v34, v35, v36, v37, v38, v39, v40, v41, v42, v43, v44, v45, v46, v47, v48, v49, v50, v51])), (a22, .inl (cI, 58, .inl nw))]) hx hb hr hlk hK hP hD hS (Nat.le_of_ble_eq_true rfl) (Nat.le_of_ble_eq_true rfl) dX9_loaded_66 ⟨(nw (12 + x)), (by rw [hi15_1, c_1]; rfl), rfl, rfl⟩
  · have c_1 : 0 < i := gy_m1p (by omega) c_1
    have em : nI i - 1 = nI (i - 1) := pk_sub (a := i) (b := 1) (by omega)
    rw [em] at hl
    have hl : lv_has ls 5 [(4, .int (nI (i - 1))), (3, .int (nI (16 + (13 * k)))), (0, .ref h0), (1, .int (nI k)), (2, .int (nI x))] := hl
    refine lv_aload_n hx hb dX9_loaded_20 rfl (lv_at hl 2 rfl) ?_
    refine va_get (D := D) (ci := 9) (v := .ref a22) (C := RX9) (T := TX9) (N := 52) hx hb hts (fun _ h => List.mem_cons_of_mem _ (List.mem_append_left _ (List.mem_append_right _ h))) hown hK hP 0 rfl rfl 22 (by decide) (hts (.fieldLink RX9 75 "LitmusHallModel" "now" "[I") (by decide +kernel)) (fun _ h9 => h9) rfl dX9_loaded_21 ?_
    refine lv_iload_n hx hb dX9_loaded_24 rfl (lv_at hl 1 rfl) ?_
    refine lv_iconst (v := 1) hx hb dX9_loaded_25 (by decide) ?_
    refine lv_iadd hx hb dX9_loaded_26 ?_
    refine gx_top (y := nI ((16 + (13 * k)) + 1)) (nI_add (16 + (13 * k)) 1) ?_
    refine lv_iconst (v := 2) hx hb dX9_loaded_27 (by decide) ?_
    refine lv_iload hx hb dX9_loaded_28 (lv_at hl 0 rfl) ?_
    refine lv_imul hx hb dX9_loaded_30 ?_
    refine gx_top (y := nI (2 * (i - 1))) (pk_mul 2 (i - 1)) ?_
    refine lv_iadd hx hb dX9_loaded_31 ?_
    refine gx_top (y := nI (((16 + (13 * k)) + 1) + (2 * (i - 1)))) (nI_add ((16 + (13 * k)) + 1) (2 * (i - 1))) ?_
    refine gy_ild (i := (((16 + (13 * k)) + 1) + (2 * (i - 1)))) hx hb hK hP 1 rfl (by omega) (by omega) dX9_loaded_32 ?_
    refine lv_iload_n hx hb dX9_loaded_33 rfl (lv_at hl 4 rfl) ?_
    refine lv_icmp_ne (tgt := 51) hx hb dX9_loaded_34 (by decide) (fun c_2 => ?_) (fun c_2 => ?_)
    · refine lv_iinc (v := nI (i - 1) - 1) (lv' := [(4, .int (nI (i - 1) - 1)), (3, .int (nI (16 + (13 * k)))), (0, .ref h0), (1, .int (nI k)), (2, .int (nI x))]) hx hb dX9_loaded_51 hl (k := 0) rfl (gy_dec (i - 1)) (by decide) rfl (fun ls hl => ?_)
      refine lv_goto (tgt := 15) hx hb dX9_loaded_54 (by decide) ?_
      exact ih15 (i - 1) H locs ls ⟨(by show (i - 1) ≤ 6; omega), (hi15_1.trans (rLd_miss (by omega) (fun q9 => c_2 q9))), hP, hD, hS, lv_sub hl [0, 1, 2, 3, 4] rfl⟩ (by show (i - 1) < i; omega)
    · refine lv_aload_n hx hb dX9_loaded_37 rfl (lv_at hl 2 rfl) ?_
      refine va_get (D := D) (ci := 9) (v := .ref a22) (C := RX9) (T := TX9) (N := 52) hx hb hts (fun _ h => List.mem_cons_of_mem _ (List.mem_append_left _ (List.mem_append_right _ h))) hown hK hP 0 rfl rfl 22 (by decide) (hts (.fieldLink RX9 75 "LitmusHallModel" "now" "[I") (by decide +kernel)) (fun _ h9 => h9) rfl dX9_loaded_38 ?_
      refine lv_iload_n hx hb dX9_loaded_41 rfl (lv_at hl 1 rfl) ?_
      refine lv_iconst (v := 2) hx hb dX9_loaded_42 (by decide) ?_
      refine lv_iadd hx hb dX9_loaded_43 ?_
      refine gx_top (y := nI ((16 + (13 * k)) + 2)) (nI_add (16 + (13 * k)) 2) ?_
      refine lv_iconst (v := 2) hx hb dX9_loaded_44 (by decide) ?_
      refine lv_iload hx hb dX9_loaded_45 (lv_at hl 0 rfl) ?_
      refine lv_imul hx hb dX9_loaded_47 ?_
      refine gx_top (y := nI (2 * (i - 1))) (pk_mul 2 (i - 1)) ?_
      refine lv_iadd hx hb dX9_loaded_48 ?_
      refine gx_top (y := nI (((16 + (13 * k)) + 2) + (2 * (i - 1)))) (nI_add ((16 + (13 * k)) + 2) (2 * (i - 1))) ?_
      refine gy_ild (i := (((16 + (13 * k)) + 2) + (2 * (i - 1)))) hx hb hK hP 1 rfl (by omega) (by omega) dX9_loaded_49 ?_
      exact gx_iret (w' := [(h0, .inr (9, [v0, v1, v2, v3, v4, v5, v6, v7, v8, v9, v10, v11, v12, v13, v14, v15, v16, v17, v18, v19, v20, v21, .ref a22, v23, v24, v25, v26, v27, v28, v29, v30, v31, v32, v33, v34, v35, v36, v37, v38, v39, v40, v41, v42, v43, v44, v45, v46, v47, v48, v49, v50, v51])), (a22, .inl (cI, 58, .inl nw))]) hx hb hr hlk hK hP hD hS (Nat.le_of_ble_eq_true rfl) (Nat.le_of_ble_eq_true rfl) dX9_loaded_50 ⟨(nw (((16 + (13 * k)) + 2) + (2 * (i - 1)))), (hi15_1.trans (rLd_hit (by omega) c_2)).symm, rfl, rfl⟩
def wsP_x_locked9 : List Cond := .code yX9_locked cX9_locked 7 none :: (([.fieldLink RX9 75 "LitmusHallModel" "now" "[I"] ++ wsX90) ++ [])
theorem gW_x_locked9 : wsP_x_locked9.all goodWord = true := by unfold wsP_x_locked9; exact gw_mk (by decide +kernel) rfl
set_option maxHeartbeats 4000000 in
set_option maxRecDepth 100000 in
theorem x_locked9 (l : Launch) (D : va_G) (cI cB cZ : ClassId) (h0 : Nat) (a22 : Nat) (v0 : Value) (v1 : Value) (v2 : Value) (v3 : Value) (v4 : Value) (v5 : Value) (v6 : Value) (v7 : Value) (v8 : Value) (v9 : Value) (v10 : Value) (v11 : Value) (v12 : Value) (v13 : Value) (v14 : Value) (v15 : Value) (v16 : Value) (v17 : Value) (v18 : Value) (v19 : Value) (v20 : Value) (v21 : Value) (v23 : Value) (v24 : Value) (v25 : Value) (v26 : Value) (v27 : Value) (v28 : Value) (v29 : Value) (v30 : Value) (v31 : Value) (v32 : Value) (v33 : Value) (v34 : Value) (v35 : Value) (v36 : Value) (v37 : Value) (v38 : Value) (v39 : Value) (v40 : Value) (v41 : Value) (v42 : Value) (v43 : Value) (v44 : Value) (v45 : Value) (v46 : Value) (v47 : Value) (v48 : Value) (v49 : Value) (v50 : Value) (v51 : Value) (nw : Nat → Int32) (nx : Nat → Nat) (rz : Nat → Nat) (y : Int32) (r : Nat) (x : Int32) (v : Int32) (u : Int32) (hr : 3 ≤ r ∧ r < 12) (hx0 : ¬ y = 4 → ∃ q, q < 4 ∧ x = nI q) (hG : gW9 nw nx rz) : gMv l yX9_locked wsP_x_locked9 ({ frames := 0, cells := 0, slots := 0, locals := 0 }) D cI cB cZ [] [.ref h0, .int y, .int (nI r), .int x, .int v, .int u] [(h0, .inr (9, [v0, v1, v2, v3, v4, v5, v6, v7, v8, v9, v10, v11, v12, v13, v14, v15, v16, v17, v18, v19, v20, v21, .ref a22, v23, v24, v25, v26, v27, v28, v29, v30, v31, v32, v33, v34, v35, v36, v37, v38, v39, v40, v41, v42, v43, v44, v45, v46, v47, v48, v49, v50, v51])), (a22, .inl (cI, 58, .inl nw))] (fun w9 => ∃ nw9 : Nat → Int32, (gW9 nw9 nx rz) ∧ (y = 4 → nw9 = nw) ∧ (∀ j, j < 4 → x = nI j → ¬ y = 4 → nw9 = rLo nw y r j v u) ∧ w9 = [(h0, .inr (9, [v0, v1, v2, v3, v4, v5, v6, v7, v8, v9, v10, v11, v12, v13, v14, v15, v16, v17, v18, v19, v20, v21, .ref a22, v23, v24, v25, v26, v27, v28, v29, v30, v31, v32, v33, v34, v35, v36, v37, v38, v39, v40, v41, v42, v43, v44, v45, v46, v47, v48, v49, v50, v51])), (a22, .inl (cI, 58, .inl nw9))]) := by
  refine gMv.of (cc := cX9_locked) (maxL := 7) (ret := none) (by decide) rfl (Nat.le_of_ble_eq_true rfl) (fun p e s m below meth c A ls hx hb hr hlk hml hts hown hin hA hP hK hD hS hN hl => ?_)
  have hown : s.vm.findClass RX9 = some m.cls := hown
  have hl : lv_has ls 7 [(0, .ref h0), (1, .int y), (2, .int (nI r)), (3, .int x), (4, .int v), (5, .int u)] := hl
  refine lv_iload_n hx hb dX9_locked_0 rfl (lv_at hl 1 rfl) ?_
  refine lv_iconst (v := 4) hx hb dX9_locked_1 (by decide) ?_
  refine lv_icmp_ne (tgt := 6) hx hb dX9_locked_2 (by decide) (fun c_1 => ?_) (fun c_1 => ?_)
  · obtain ⟨q, hq, rfl⟩ := hx0 c_1
    have hy4 := c_1
    have hl : lv_has ls 7 [(0, .ref h0), (1, .int y), (2, .int (nI r)), (3, .int (nI q)), (4, .int v), (5, .int u)] := hl
    refine lv_aload_n hx hb dX9_locked_6 rfl (lv_at hl 0 rfl) ?_
    refine va_get (D := D) (ci := 9) (v := .ref a22) (C := RX9) (T := TX9) (N := 52) hx hb hts (fun _ h => List.mem_cons_of_mem _ (List.mem_append_left _ (List.mem_append_right _ h))) hown hK hP 0 rfl rfl 22 (by decide) (hts (.fieldLink RX9 75 "LitmusHallModel" "now" "[I") (by decide +kernel)) (fun _ h9 => h9) rfl dX9_locked_7 ?_
    refine lv_bipush (v := 12) hx hb dX9_locked_10 (by decide) ?_
    refine lv_iload_n hx hb dX9_locked_12 rfl (lv_at hl 3 rfl) ?_
    refine lv_iadd hx hb dX9_locked_13 ?_
    refine gx_top (y := nI (12 + q)) (nI_add 12 q) ?_
    refine gy_ild (i := (12 + q)) hx hb hK hP 1 rfl (by omega) (by omega) dX9_locked_14 ?_
    refine lv_istore (lv' := [(6, .int (nw (12 + q))), (0, .ref h0), (1, .int y), (2, .int (nI r)), (3, .int (nI q)), (4, .int v), (5, .int u)]) hx hb dX9_locked_15 hl (by decide) rfl (fun ls hl => ?_)
    refine lv_iload_n hx hb dX9_locked_17 rfl (lv_at hl 2 rfl) ?_
    refine lv_iconst (v := 5) hx hb dX9_locked_18 (by decide) ?_
    refine lv_icmp_ne (tgt := 40) hx hb dX9_locked_19 (by decide) (fun c_2 => ?_) (fun c_2 => ?_)
    · refine lv_iload_n hx hb dX9_locked_40 rfl (lv_at hl 2 rfl) ?_
      refine lv_bipush (v := 6) hx hb dX9_locked_41 (by decide) ?_
      refine lv_icmp_ne (tgt := 63) hx hb dX9_locked_43 (by decide) (fun c_3 => ?_) (fun c_3 => ?_)
      · refine lv_aload_n hx hb dX9_locked_63 rfl (lv_at hl 1 rfl) ?_
        refine va_get (D := D) (ci := 9) (v := .ref a22) (C := RX9) (T := TX9) (N := 52) hx hb hts (fun _ h => List.mem_cons_of_mem _ (List.mem_append_left _ (List.mem_append_right _ h))) hown hK hP 0 rfl rfl 22 (by decide) (hts (.fieldLink RX9 75 "LitmusHallModel" "now" "[I") (by decide +kernel)) (fun _ h9 => h9) rfl dX9_locked_64 ?_
        refine lv_bipush (v := 12) hx hb dX9_locked_67 (by decide) ?_
        refine lv_iload_n hx hb dX9_locked_69 rfl (lv_at hl 4 rfl) ?_
        refine lv_iadd hx hb dX9_locked_70 ?_
        refine gx_top (y := nI (12 + q)) (nI_add 12 q) ?_
        refine lv_iload hx hb dX9_locked_71 (lv_at hl 0 rfl) ?_
        refine lv_iload hx hb dX9_locked_73 (lv_at hl 5 rfl) ?_
        refine lv_icmp_ne (tgt := 83) hx hb dX9_locked_75 (by decide) (fun c_4 => ?_) (fun c_4 => ?_)
        · refine lv_iload hx hb dX9_locked_83 (lv_at hl 0 rfl) ?_
          refine gy_ist (i := (12 + q)) hx hb hK hP hD hS 1 rfl (by omega) (by omega) dX9_locked_85 (fun H locs hP hD hS => ?_)
          have hP : va_P D vwCl [(h0, .inr (9, [v0, v1, v2, v3, v4, v5, v6, v7, v8, v9, v10, v11, v12, v13, v14, v15, v16, v17, v18, v19, v20, v21, .ref a22, v23, v24, v25, v26, v27, v28, v29, v30, v31, v32, v33, v34, v35, v36, v37, v38, v39, v40, v41, v42, v43, v44, v45, v46, v47, v48, v49, v50, v51])), (a22, .inl (cI, 58, .inl (upd nw (12 + q) (nw (12 + q)))))] H := hP
          have hD : va_D A [(h0, .inr (9, [v0, v1, v2, v3, v4, v5, v6, v7, v8, v9, v10, v11, v12, v13, v14, v15, v16, v17, v18, v19, v20, v21, .ref a22, v23, v24, v25, v26, v27, v28, v29, v30, v31, v32, v33, v34, v35, v36, v37, v38, v39, v40, v41, v42, v43, v44, v45, v46, v47, v48, v49, v50, v51])), (a22, .inl (cI, 58, .inl (upd nw (12 + q) (nw (12 + q)))))] := hD
          refine lv_aload_n hx hb dX9_locked_86 rfl (lv_at hl 1 rfl) ?_
          refine va_get (D := D) (ci := 9) (v := .ref a22) (C := RX9) (T := TX9) (N := 52) hx hb hts (fun _ h => List.mem_cons_of_mem _ (List.mem_append_left _ (List.mem_append_right _ h))) hown hK hP 0 rfl rfl 22 (by decide) (hts (.fieldLink RX9 75 "LitmusHallModel" "now" "[I") (by decide +kernel)) (fun _ h9 => h9) rfl dX9_locked_87 ?_
          refine lv_iload_n hx hb dX9_locked_90 rfl (lv_at hl 3 rfl) ?_
          refine lv_iload hx hb dX9_locked_91 (lv_at hl 0 rfl) ?_
          refine gy_ist (i := r) hx hb hK hP hD hS 1 rfl (by omega) (by omega) dX9_locked_93 (fun H locs hP hD hS => ?_)
          have hP : va_P D vwCl [(h0, .inr (9, [v0, v1, v2, v3, v4, v5, v6, v7, v8, v9, v10, v11, v12, v13, v14, v15, v16, v17, v18, v19, v20, v21, .ref a22, v23, v24, v25, v26, v27, v28, v29, v30, v31, v32, v33, v34, v35, v36, v37, v38, v39, v40, v41, v42, v43, v44, v45, v46, v47, v48, v49, v50, v51])), (a22, .inl (cI, 58, .inl (upd (upd nw (12 + q) (nw (12 + q))) r (nw (12 + q)))))] H := hP
          have hD : va_D A [(h0, .inr (9, [v0, v1, v2, v3, v4, v5, v6, v7, v8, v9, v10, v11, v12, v13, v14, v15, v16, v17, v18, v19, v20, v21, .ref a22, v23, v24, v25, v26, v27, v28, v29, v30, v31, v32, v33, v34, v35, v36, v37, v38, v39, v40, v41, v42, v43, v44, v45, v46, v47, v48, v49, v50, v51])), (a22, .inl (cI, 58, .inl (upd (upd nw (12 + q) (nw (12 + q))) r (nw (12 + q)))))] := hD
          exact gx_vret (w' := [(h0, .inr (9, [v0, v1, v2, v3, v4, v5, v6, v7, v8, v9, v10, v11, v12, v13, v14, v15, v16, v17, v18, v19, v20, v21, .ref a22, v23, v24, v25, v26, v27, v28, v29, v30, v31, v32, v33, v34, v35, v36, v37, v38, v39, v40, v41, v42, v43, v44, v45, v46, v47, v48, v49, v50, v51])), (a22, .inl (cI, 58, .inl (upd (upd nw (12 + q) (nw (12 + q))) r (nw (12 + q)))))]) hx hb hr hlk hK hP hD hS (Nat.le_of_ble_eq_true rfl) (Nat.le_of_ble_eq_true rfl) dX9_locked_94 ⟨(upd (upd nw (12 + q) (nw (12 + q))) r (nw (12 + q))), (gW9_out (gW9_out hG (by omega)) (by omega)), (fun h => absurd h hy4), (fun j hj ej _ => by obtain rfl := (nI_eq (a := q) (b := j) (by omega) (by omega)).mp ej; unfold rLo; first | (rw [if_pos c_4]; done) | (rw [if_neg c_3, if_pos c_4]; done) | (rw [if_neg c_2, if_neg c_3, if_pos c_4]; done) | (rw [if_neg c_2, if_neg c_3, if_neg c_4]; done)), rfl⟩
        · refine lv_iload hx hb dX9_locked_78 (lv_at hl 6 rfl) ?_
          refine lv_goto (tgt := 85) hx hb dX9_locked_80 (by decide) ?_
          refine gy_ist (i := (12 + q)) hx hb hK hP hD hS 1 rfl (by omega) (by omega) dX9_locked_85 (fun H locs hP hD hS => ?_)
          have hP : va_P D vwCl [(h0, .inr (9, [v0, v1, v2, v3, v4, v5, v6, v7, v8, v9, v10, v11, v12, v13, v14, v15, v16, v17, v18, v19, v20, v21, .ref a22, v23, v24, v25, v26, v27, v28, v29, v30, v31, v32, v33, v34, v35, v36, v37, v38, v39, v40, v41, v42, v43, v44, v45, v46, v47, v48, v49, v50, v51])), (a22, .inl (cI, 58, .inl (upd nw (12 + q) u)))] H := hP
          have hD : va_D A [(h0, .inr (9, [v0, v1, v2, v3, v4, v5, v6, v7, v8, v9, v10, v11, v12, v13, v14, v15, v16, v17, v18, v19, v20, v21, .ref a22, v23, v24, v25, v26, v27, v28, v29, v30, v31, v32, v33, v34, v35, v36, v37, v38, v39, v40, v41, v42, v43, v44, v45, v46, v47, v48, v49, v50, v51])), (a22, .inl (cI, 58, .inl (upd nw (12 + q) u)))] := hD
          refine lv_aload_n hx hb dX9_locked_86 rfl (lv_at hl 1 rfl) ?_
          refine va_get (D := D) (ci := 9) (v := .ref a22) (C := RX9) (T := TX9) (N := 52) hx hb hts (fun _ h => List.mem_cons_of_mem _ (List.mem_append_left _ (List.mem_append_right _ h))) hown hK hP 0 rfl rfl 22 (by decide) (hts (.fieldLink RX9 75 "LitmusHallModel" "now" "[I") (by decide +kernel)) (fun _ h9 => h9) rfl dX9_locked_87 ?_
          refine lv_iload_n hx hb dX9_locked_90 rfl (lv_at hl 3 rfl) ?_
          refine lv_iload hx hb dX9_locked_91 (lv_at hl 0 rfl) ?_
          refine gy_ist (i := r) hx hb hK hP hD hS 1 rfl (by omega) (by omega) dX9_locked_93 (fun H locs hP hD hS => ?_)
          have hP : va_P D vwCl [(h0, .inr (9, [v0, v1, v2, v3, v4, v5, v6, v7, v8, v9, v10, v11, v12, v13, v14, v15, v16, v17, v18, v19, v20, v21, .ref a22, v23, v24, v25, v26, v27, v28, v29, v30, v31, v32, v33, v34, v35, v36, v37, v38, v39, v40, v41, v42, v43, v44, v45, v46, v47, v48, v49, v50, v51])), (a22, .inl (cI, 58, .inl (upd (upd nw (12 + q) u) r (nw (12 + q)))))] H := hP
          have hD : va_D A [(h0, .inr (9, [v0, v1, v2, v3, v4, v5, v6, v7, v8, v9, v10, v11, v12, v13, v14, v15, v16, v17, v18, v19, v20, v21, .ref a22, v23, v24, v25, v26, v27, v28, v29, v30, v31, v32, v33, v34, v35, v36, v37, v38, v39, v40, v41, v42, v43, v44, v45, v46, v47, v48, v49, v50, v51])), (a22, .inl (cI, 58, .inl (upd (upd nw (12 + q) u) r (nw (12 + q)))))] := hD
          exact gx_vret (w' := [(h0, .inr (9, [v0, v1, v2, v3, v4, v5, v6, v7, v8, v9, v10, v11, v12, v13, v14, v15, v16, v17, v18, v19, v20, v21, .ref a22, v23, v24, v25, v26, v27, v28, v29, v30, v31, v32, v33, v34, v35, v36, v37, v38, v39, v40, v41, v42, v43, v44, v45, v46, v47, v48, v49, v50, v51])), (a22, .inl (cI, 58, .inl (upd (upd nw (12 + q) u) r (nw (12 + q)))))]) hx hb hr hlk hK hP hD hS (Nat.le_of_ble_eq_true rfl) (Nat.le_of_ble_eq_true rfl) dX9_locked_94 ⟨(upd (upd nw (12 + q) u) r (nw (12 + q))), (gW9_out (gW9_out hG (by omega)) (by omega)), (fun h => absurd h hy4), (fun j hj ej _ => by obtain rfl := (nI_eq (a := q) (b := j) (by omega) (by omega)).mp ej; unfold rLo; first | (rw [if_pos c_4]; done) | (rw [if_neg c_3, if_pos c_4]; done) | (rw [if_neg c_2, if_neg c_3, if_pos c_4]; done) | (rw [if_neg c_2, if_neg c_3, if_neg c_4]; done)), rfl⟩
      · refine lv_aload_n hx hb dX9_locked_46 rfl (lv_at hl 1 rfl) ?_
        refine va_get (D := D) (ci := 9) (v := .ref a22) (C := RX9) (T := TX9) (N := 52) hx hb hts (fun _ h => List.mem_cons_of_mem _ (List.mem_append_left _ (List.mem_append_right _ h))) hown hK hP 0 rfl rfl 22 (by decide) (hts (.fieldLink RX9 75 "LitmusHallModel" "now" "[I") (by decide +kernel)) (fun _ h9 => h9) rfl dX9_locked_47 ?_
        refine lv_bipush (v := 12) hx hb dX9_locked_50 (by decide) ?_
        refine lv_iload_n hx hb dX9_locked_52 rfl (lv_at hl 4 rfl) ?_
        refine lv_iadd hx hb dX9_locked_53 ?_
        refine gx_top (y := nI (12 + q)) (nI_add 12 q) ?_
        refine lv_iload hx hb dX9_locked_54 (lv_at hl 0 rfl) ?_
        refine lv_iload hx hb dX9_locked_56 (lv_at hl 5 rfl) ?_
        refine lv_iadd hx hb dX9_locked_58 ?_
        refine gy_ist (i := (12 + q)) hx hb hK hP hD hS 1 rfl (by omega) (by omega) dX9_locked_59 (fun H locs hP hD hS => ?_)
        have hP : va_P D vwCl [(h0, .inr (9, [v0, v1, v2, v3, v4, v5, v6, v7, v8, v9, v10, v11, v12, v13, v14, v15, v16, v17, v18, v19, v20, v21, .ref a22, v23, v24, v25, v26, v27, v28, v29, v30, v31, v32, v33, v34, v35, v36, v37, v38, v39, v40, v41, v42, v43, v44, v45, v46, v47, v48, v49, v50, v51])), (a22, .inl (cI, 58, .inl (upd nw (12 + q) ((nw (12 + q)) + v))))] H := hP
        have hD : va_D A [(h0, .inr (9, [v0, v1, v2, v3, v4, v5, v6, v7, v8, v9, v10, v11, v12, v13, v14, v15, v16, v17, v18, v19, v20, v21, .ref a22, v23, v24, v25, v26, v27, v28, v29, v30, v31, v32, v33, v34, v35, v36, v37, v38, v39, v40, v41, v42, v43, v44, v45, v46, v47, v48, v49, v50, v51])), (a22, .inl (cI, 58, .inl (upd nw (12 + q) ((nw (12 + q)) + v))))] := hD
        refine lv_goto (tgt := 86) hx hb dX9_locked_60 (by decide) ?_
        refine lv_aload_n hx hb dX9_locked_86 rfl (lv_at hl 1 rfl) ?_
        refine va_get (D := D) (ci := 9) (v := .ref a22) (C := RX9) (T := TX9) (N := 52) hx hb hts (fun _ h => List.mem_cons_of_mem _ (List.mem_append_left _ (List.mem_append_right _ h))) hown hK hP 0 rfl rfl 22 (by decide) (hts (.fieldLink RX9 75 "LitmusHallModel" "now" "[I") (by decide +kernel)) (fun _ h9 => h9) rfl dX9_locked_87 ?_
        refine lv_iload_n hx hb dX9_locked_90 rfl (lv_at hl 3 rfl) ?_
        refine lv_iload hx hb dX9_locked_91 (lv_at hl 0 rfl) ?_
        refine gy_ist (i := r) hx hb hK hP hD hS 1 rfl (by omega) (by omega) dX9_locked_93 (fun H locs hP hD hS => ?_)
        have hP : va_P D vwCl [(h0, .inr (9, [v0, v1, v2, v3, v4, v5, v6, v7, v8, v9, v10, v11, v12, v13, v14, v15, v16, v17, v18, v19, v20, v21, .ref a22, v23, v24, v25, v26, v27, v28, v29, v30, v31, v32, v33, v34, v35, v36, v37, v38, v39, v40, v41, v42, v43, v44, v45, v46, v47, v48, v49, v50, v51])), (a22, .inl (cI, 58, .inl (upd (upd nw (12 + q) ((nw (12 + q)) + v)) r (nw (12 + q)))))] H := hP
        have hD : va_D A [(h0, .inr (9, [v0, v1, v2, v3, v4, v5, v6, v7, v8, v9, v10, v11, v12, v13, v14, v15, v16, v17, v18, v19, v20, v21, .ref a22, v23, v24, v25, v26, v27, v28, v29, v30, v31, v32, v33, v34, v35, v36, v37, v38, v39, v40, v41, v42, v43, v44, v45, v46, v47, v48, v49, v50, v51])), (a22, .inl (cI, 58, .inl (upd (upd nw (12 + q) ((nw (12 + q)) + v)) r (nw (12 + q)))))] := hD
        exact gx_vret (w' := [(h0, .inr (9, [v0, v1, v2, v3, v4, v5, v6, v7, v8, v9, v10, v11, v12, v13, v14, v15, v16, v17, v18, v19, v20, v21, .ref a22, v23, v24, v25, v26, v27, v28, v29, v30, v31, v32, v33, v34, v35, v36, v37, v38, v39, v40, v41, v42, v43, v44, v45, v46, v47, v48, v49, v50, v51])), (a22, .inl (cI, 58, .inl (upd (upd nw (12 + q) ((nw (12 + q)) + v)) r (nw (12 + q)))))]) hx hb hr hlk hK hP hD hS (Nat.le_of_ble_eq_true rfl) (Nat.le_of_ble_eq_true rfl) dX9_locked_94 ⟨(upd (upd nw (12 + q) ((nw (12 + q)) + v)) r (nw (12 + q))), (gW9_out (gW9_out hG (by omega)) (by omega)), (fun h => absurd h hy4), (fun j hj ej _ => by obtain rfl := (nI_eq (a := q) (b := j) (by omega) (by omega)).mp ej; unfold rLo; first | (rw [if_pos c_3]; done) | (rw [if_neg c_2, if_pos c_3]; done) | (rw [if_neg c_1, if_neg c_2, if_pos c_3]; done) | (rw [if_neg c_1, if_neg c_2, if_neg c_3]; done)), rfl⟩
    · refine lv_aload_n hx hb dX9_locked_22 rfl (lv_at hl 1 rfl) ?_
      refine va_get (D := D) (ci := 9) (v := .ref a22) (C := RX9) (T := TX9) (N := 52) hx hb hts (fun _ h => List.mem_cons_of_mem _ (List.mem_append_left _ (List.mem_append_right _ h))) hown hK hP 0 rfl rfl 22 (by decide) (hts (.fieldLink RX9 75 "LitmusHallModel" "now" "[I") (by decide +kernel)) (fun _ h9 => h9) rfl dX9_locked_23 ?_
      refine lv_bipush (v := 12) hx hb dX9_locked_26 (by decide) ?_
      refine lv_iload_n hx hb dX9_locked_28 rfl (lv_at hl 4 rfl) ?_
      refine lv_iadd hx hb dX9_locked_29 ?_
      refine gx_top (y := nI (12 + q)) (nI_add 12 q) ?_
      refine lv_aload_n hx hb dX9_locked_30 rfl (lv_at hl 1 rfl) ?_
      refine va_get (D := D) (ci := 9) (v := .ref a22) (C := RX9) (T := TX9) (N := 52) hx hb hts (fun _ h => List.mem_cons_of_mem _ (List.mem_append_left _ (List.mem_append_right _ h))) hown hK hP 0 rfl rfl 22 (by decide) (hts (.fieldLink RX9 75 "LitmusHallModel" "now" "[I") (by decide +kernel)) (fun _ h9 => h9) rfl dX9_locked_31 ?_
      refine lv_iload_n hx hb dX9_locked_34 rfl (lv_at hl 3 rfl) ?_
      refine gy_ild (i := r) hx hb hK hP 1 rfl (by omega) (by omega) dX9_locked_35 ?_
      refine gy_ist (i := (12 + q)) hx hb hK hP hD hS 1 rfl (by omega) (by omega) dX9_locked_36 (fun H locs hP hD hS => ?_)
      have hP : va_P D vwCl [(h0, .inr (9, [v0, v1, v2, v3, v4, v5, v6, v7, v8, v9, v10, v11, v12, v13, v14, v15, v16, v17, v18, v19, v20, v21, .ref a22, v23, v24, v25, v26, v27, v28, v29, v30, v31, v32, v33, v34, v35, v36, v37, v38, v39, v40, v41, v42, v43, v44, v45, v46, v47, v48, v49, v50, v51])), (a22, .inl (cI, 58, .inl (upd nw (12 + q) (nw r))))] H := hP
      have hD : va_D A [(h0, .inr (9, [v0, v1, v2, v3, v4, v5, v6, v7, v8, v9, v10, v11, v12, v13, v14, v15, v16, v17, v18, v19, v20, v21, .ref a22, v23, v24, v25, v26, v27, v28, v29, v30, v31, v32, v33, v34, v35, v36, v37, v38, v39, v40, v41, v42, v43, v44, v45, v46, v47, v48, v49, v50, v51])), (a22, .inl (cI, 58, .inl (upd nw (12 + q) (nw r))))] := hD
      refine lv_goto (tgt := 86) hx hb dX9_locked_37 (by decide) ?_
      refine lv_aload_n hx hb dX9_locked_86 rfl (lv_at hl 1 rfl) ?_
      refine va_get (D := D) (ci := 9) (v := .ref a22) (C := RX9) (T := TX9) (N := 52) hx hb hts (fun _ h => List.mem_cons_of_mem _ (List.mem_append_left _ (List.mem_append_right _ h))) hown hK hP 0 rfl rfl 22 (by decide) (hts (.fieldLink RX9 75 "LitmusHallModel" "now" "[I") (by decide +kernel)) (fun _ h9 => h9) rfl dX9_locked_87 ?_
      refine lv_iload_n hx hb dX9_locked_90 rfl (lv_at hl 3 rfl) ?_
      refine lv_iload hx hb dX9_locked_91 (lv_at hl 0 rfl) ?_
      refine gy_ist (i := r) hx hb hK hP hD hS 1 rfl (by omega) (by omega) dX9_locked_93 (fun H locs hP hD hS => ?_)
      have hP : va_P D vwCl [(h0, .inr (9, [v0, v1, v2, v3, v4, v5, v6, v7, v8, v9, v10, v11, v12, v13, v14, v15, v16, v17, v18, v19, v20, v21, .ref a22, v23, v24, v25, v26, v27, v28, v29, v30, v31, v32, v33, v34, v35, v36, v37, v38, v39, v40, v41, v42, v43, v44, v45, v46, v47, v48, v49, v50, v51])), (a22, .inl (cI, 58, .inl (upd (upd nw (12 + q) (nw r)) r (nw (12 + q)))))] H := hP
      have hD : va_D A [(h0, .inr (9, [v0, v1, v2, v3, v4, v5, v6, v7, v8, v9, v10, v11, v12, v13, v14, v15, v16, v17, v18, v19, v20, v21, .ref a22, v23, v24, v25, v26, v27, v28, v29, v30, v31, v32, v33, v34, v35, v36, v37, v38, v39, v40, v41, v42, v43, v44, v45, v46, v47, v48, v49, v50, v51])), (a22, .inl (cI, 58, .inl (upd (upd nw (12 + q) (nw r)) r (nw (12 + q)))))] := hD
      exact gx_vret (w' := [(h0, .inr (9, [v0, v1, v2, v3, v4, v5, v6, v7, v8, v9, v10, v11, v12, v13, v14, v15, v16, v17, v18, v19, v20, v21, .ref a22, v23, v24, v25, v26, v27, v28, v29, v30, v31, v32, v33, v34, v35, v36, v37, v38, v39, v40, v41, v42, v43, v44, v45, v46, v47, v48, v49, v50, v51])), (a22, .inl (cI, 58, .inl (upd (upd nw (12 + q) (nw r)) r (nw (12 + q)))))]) hx hb hr hlk hK hP hD hS (Nat.le_of_ble_eq_true rfl) (Nat.le_of_ble_eq_true rfl) dX9_locked_94 ⟨(upd (upd nw (12 + q) (nw r)) r (nw (12 + q))), (gW9_out (gW9_out hG (by omega)) (by omega)), (fun h => absurd h hy4), (fun j hj ej _ => by obtain rfl := (nI_eq (a := q) (b := j) (by omega) (by omega)).mp ej; unfold rLo; first | (rw [if_pos c_2]; done) | (rw [if_neg c_1, if_pos c_2]; done) | (rw [if_neg c_1, if_neg c_1, if_pos c_2]; done) | (rw [if_neg c_1, if_neg c_1, if_neg c_2]; done)), rfl⟩
  · exact gx_vret (w' := [(h0, .inr (9, [v0, v1, v2, v3, v4, v5, v6, v7, v8, v9, v10, v11, v12, v13, v14, v15, v16, v17, v18, v19, v20, v21, .ref a22, v23, v24, v25, v26, v27, v28, v29, v30, v31, v32, v33, v34, v35, v36, v37, v38, v39, v40, v41, v42, v43, v44, v45, v46, v47, v48, v49, v50, v51])), (a22, .inl (cI, 58, .inl nw))]) hx hb hr hlk hK hP hD hS (Nat.le_of_ble_eq_true rfl) (Nat.le_of_ble_eq_true rfl) dX9_locked_5 ⟨nw, hG, (fun _ => rfl), (fun j _ _ h => absurd c_1 h), rfl⟩
def wsP_x_put9 : List Cond := .code yX9_put cX9_put 6 none :: (([.methodLink RX9 267 yX9_rowAt, .static yX9_rowAt, .initialized yX9_rowAt.cls, .fieldLink RX9 75 "LitmusHallModel" "now" "[I"] ++ wsX90) ++ (wsP_c_rowAt9 ++ []))
theorem gW_x_put9 : wsP_x_put9.all goodWord = true := by unfold wsP_x_put9; exact gw_mk (by decide +kernel) (gw_app gW_c_rowAt9 rfl)
set_option maxRecDepth 20000 in
theorem gP_x_put9__c_rowAt9 : GoodIn wsP_x_put9 (va_wsS RX9 267 yX9_rowAt wsP_c_rowAt9) := gw_in (pre := [.methodLink RX9 267 yX9_rowAt, .static yX9_rowAt, .initialized yX9_rowAt.cls]) (by decide +kernel) (fun _ h => List.mem_cons_of_mem _ (List.mem_append_right _ (List.mem_append_left _ h))) gW_c_rowAt9
set_option maxHeartbeats 4000000 in
set_option maxRecDepth 100000 in
theorem x_put9 (l : Launch) (D : va_G) (cI cB cZ : ClassId) (h0 : Nat) (a22 : Nat) (v0 : Value) (v1 : Value) (v2 : Value) (v3 : Value) (v4 : Value) (v5 : Value) (v6 : Value) (v7 : Value) (v8 : Value) (v9 : Value) (v10 : Value) (v11 : Value) (v12 : Value) (v13 : Value) (v14 : Value) (v15 : Value) (v16 : Value) (v17 : Value) (v18 : Value) (v19 : Value) (v20 : Value) (v21 : Value) (v23 : Value) (v24 : Value) (v25 : Value) (v26 : Value) (v27 : Value) (v28 : Value) (v29 : Value) (v30 : Value) (v31 : Value) (v32 : Value) (v33 : Value) (v34 : Value) (v35 : Value) (v36 : Value) (v37 : Value) (v38 : Value) (v39 : Value) (v40 : Value) (v41 : Value) (v42 : Value) (v43 : Value) (v44 : Value) (v45 : Value) (v46 : Value) (v47 : Value) (v48 : Value) (v49 : Value) (v50 : Value) (v51 : Value) (nw : Nat → Int32) (nx : Nat → Nat) (rz : Nat → Nat) (k : Nat) (x : Nat) (v : Int32) (mode : Int32) (hk : k < 3) (hx0 : x < 4) (hz : ¬ mode = 0 → rz k < 6) (hG : gW9 nw nx rz) : gMv l yX9_put wsP_x_put9 ({ frames := 1, cells := 0, slots := 0, locals := 20 }) D cI cB cZ [] [.ref h0, .int (nI k), .int (nI x), .int v, .int mode] [(h0, .inr (9, [v0, v1, v2, v3, v4, v5, v6, v7, v8, v9, v10, v11, v12, v13, v14, v15, v16, v17, v18, v19, v20, v21, .ref a22, v23, v24, v25, v26, v27, v28, v29, v30, v31, v32, v33, v34, v35, v36, v37, v38, v39, v40, v41, v42, v43, v44, v45, v46, v47, v48, v49, v50, v51])), (a22, .inl (cI, 58, .inl nw))] (fun w9 => ∃ nw9 : Nat → Int32, ∃ rz9 : Nat → Nat, (gW9 nw9 nx rz9) ∧ ((mode = 0 ∧ rz9 = rz) ∨ (¬ mode = 0 ∧ rz9 = updN rz k (rz k + 1))) ∧ ((mode = 0 ∧ nw9 = upd nw (12 + x) v) ∨ (¬ mode = 0 ∧ nw9 = upd (upd (upd nw (((16 + (13 * k)) + 1) + (2 * rz k)) (nI x)) (((16 + (13 * k)) + 2) + (2 * rz k)) v) (16 + (13 * k)) (nI (rz k + 1)))) ∧ w9 = [(h0, .inr (9, [v0, v1, v2, v3, v4, v5, v6, v7, v8, v9, v10, v11, v12, v13, v14, v15, v16, v17, v18, v19, v20, v21, .ref a22, v23, v24, v25, v26, v27, v28, v29, v30, v31, v32, v33, v34, v35, v36, v37, v38, v39, v40, v41, v42, v43, v44, v45, v46, v47, v48, v49, v50, v51])), (a22, .inl (cI, 58, .inl nw9))]) := by
  refine gMv.of (cc := cX9_put) (maxL := 6) (ret := none) (by decide) rfl (Nat.le_of_ble_eq_true rfl) (fun p e s m below meth c A ls hx hb hr hlk hml hts hown hin hA hP hK hD hS hN hl => ?_)
  have hown : s.vm.findClass RX9 = some m.cls := hown
  have hl : lv_has ls 6 [(0, .ref h0), (1, .int (nI k)), (2, .int (nI x)), (3, .int v), (4, .int mode)] := hl
  obtain ⟨e1, e2, e3, e4, e5⟩ := hG (k) (by omega)
  refine lv_iload hx hb dX9_put_0 (lv_at hl 4 rfl) ?_
  refine lv_if_ne (tgt := 16) hx hb dX9_put_2 (by decide) (fun c_1 => ?_) (fun c_1 => ?_)
  · have hzz := hz c_1
    refine lv_iload_n hx hb dX9_put_16 rfl (lv_at hl 1 rfl) ?_
    refine gx_goi (wc := []) (wr := [(h0, .inr (9, [v0, v1, v2, v3, v4, v5, v6, v7, v8, v9, v10, v11, v12, v13, v14, v15, v16, v17, v18, v19, v20, v21, .ref a22, v23, v24, v25, v26, v27, v28, v29, v30, v31, v32, v33, v34, v35, v36, v37, v38, v39, v40, v41, v42, v43, v44, v45, v46, v47, v48, v49, v50, v51])), (a22, .inl (cI, 58, .inl nw))]) (va_runS (As := [.int (nI k)]) (rest := []) ⟨hx, hb, hml, hown, hts⟩ (c_rowAt9 l D cI cB cZ k _) (va_cwS 1 hts gP_x_put9__c_rowAt9 rfl rfl rfl (by decide +kernel) ⟨Nat.le_of_ble_eq_true rfl, Nat.le_of_ble_eq_true rfl⟩) (gx_preS hK gN.nil hP hD [] rfl rfl) rfl rfl hl.1 rfl (lv_room (Nat.le_of_ble_eq_true rfl)) dX9_put_17 ⟨Nat.le_of_ble_eq_true rfl, Nat.le_of_ble_eq_true rfl⟩) hP hD hS hA [] [0, 1] rfl rfl rfl (by decide) (fun r1 w1 H locs hp hP hD hS => ?_)
    obtain ⟨h9, rfl⟩ := hp
    have h9 := h9.symm
    subst h9
    refine lv_istore (lv' := [(5, .int (nI (16 + (13 * k)))), (0, .ref h0), (1, .int (nI k)), (2, .int (nI x)), (3, .int v), (4, .int mode)]) hx hb dX9_put_20 hl (by decide) rfl (fun ls hl => ?_)
    refine lv_aload_n hx hb dX9_put_22 rfl (lv_at hl 1 rfl) ?_
    refine va_get (D := D) (ci := 9) (v := .ref a22) (C := RX9) (T := TX9) (N := 52) hx hb hts (fun _ h => List.mem_cons_of_mem _ (List.mem_append_left _ (List.mem_append_right _ h))) hown hK hP 0 rfl rfl 22 (by decide) (hts (.fieldLink RX9 75 "LitmusHallModel" "now" "[I") (by decide +kernel)) (fun _ h9 => h9) rfl dX9_put_23 ?_
    refine lv_iload hx hb dX9_put_26 (lv_at hl 0 rfl) ?_
    refine lv_iconst (v := 1) hx hb dX9_put_28 (by decide) ?_
    refine lv_iadd hx hb dX9_put_29 ?_
    refine gx_top (y := nI ((16 + (13 * k)) + 1)) (nI_add (16 + (13 * k)) 1) ?_
    refine lv_iconst (v := 2) hx hb dX9_put_30 (by decide) ?_
    refine lv_aload_n hx hb dX9_put_31 rfl (lv_at hl 1 rfl) ?_
    refine va_get (D := D) (ci := 9) (v := .ref a22) (C := RX9) (T := TX9) (N := 52) hx hb hts (fun _ h => List.mem_cons_of_mem _ (List.mem_append_left _ (List.mem_append_right _ h))) hown hK hP 0 rfl rfl 22 (by decide) (hts (.fieldLink RX9 75 "LitmusHallModel" "now" "[I") (by decide +kernel)) (fun _ h9 => h9) rfl dX9_put_32 ?_
    refine lv_iload hx hb dX9_put_35 (lv_at hl 0 rfl) ?_
    refine gy_ild (i := (16 + (13 * k))) hx hb hK hP 1 rfl (by omega) (by omega) dX9_put_37 ?_
    refine gx_top (y := nI (rz k)) e2 ?_
    refine lv_imul hx hb dX9_put_38 ?_
    refine gx_top (y := nI (2 * (rz k))) (pk_mul 2 (rz k)) ?_
    refine lv_iadd hx hb dX9_put_39 ?_
    refine gx_top (y := nI (((16 + (13 * k)) + 1) + (2 * (rz k)))) (nI_add ((16 + (13 * k)) + 1) (2 * (rz k))) ?_
    refine lv_iload_n hx hb dX9_put_40 rfl (lv_at hl 3 rfl) ?_
    refine gy_ist (i := (((16 + (13 * k)) + 1) + (2 * (rz k)))) hx hb hK hP hD hS 1 rfl (by omega) (by omega) dX9_put_41 (fun H locs hP hD hS => ?_)
    have hP : va_P D vwCl [(h0, .inr (9, [v0, v1, v2, v3, v4, v5, v6, v7, v8, v9, v10, v11, v12, v13, v14, v15, v16, v17, v18, v19, v20, v21, .ref a22, v23, v24, v25, v26, v27, v28, v29, v30, v31, v32, v33, v34, v35, v36, v37, v38, v39, v40, v41, v42, v43, v44, v45, v46, v47, v48, v49, v50, v51])), (a22, .inl (cI, 58, .inl (upd nw (((16 + (13 * k)) + 1) + (2 * (rz k))) (nI x))))] H := hP
    have hD : va_D A [(h0, .inr (9, [v0, v1, v2, v3, v4, v5, v6, v7, v8, v9, v10, v11, v12, v13, v14, v15, v16, v17, v18, v19, v20, v21, .ref a22, v23, v24, v25, v26, v27, v28, v29, v30, v31, v32, v33, v34, v35, v36, v37, v38, v39, v40, v41, v42, v43, v44, v45, v46, v47, v48, v49, v50, v51])), (a22, .inl (cI, 58, .inl (upd nw (((16 + (13 * k)) + 1) + (2 * (rz k))) (nI x))))] := hD
    refine lv_aload_n hx hb dX9_put_42 rfl (lv_at hl 1 rfl) ?_
    refine va_get (D := D) (ci := 9) (v := .ref a22) (C := RX9) (T := TX9) (N := 52) hx hb hts (fun _ h => List.mem_cons_of_mem _ (List.mem_append_left _ (List.mem_append_right _ h))) hown hK hP 0 rfl rfl 22 (by decide) (hts (.fieldLink RX9 75 "LitmusHallModel" "now" "[I") (by decide +kernel)) (fun _ h9 => h9) rfl dX9_put_43 ?_
    refine lv_iload hx hb dX9_put_46 (lv_at hl 0 rfl) ?_
    refine lv_iconst (v := 2) hx hb dX9_put_48 (by decide) ?_
    refine lv_iadd hx hb dX9_put_49 ?_
    refine gx_top (y := nI ((16 + (13 * k)) + 2)) (nI_add (16 + (13 * k)) 2) ?_
    refine lv_iconst (v := 2) hx hb dX9_put_50 (by decide) ?_
    refine lv_aload_n hx hb dX9_put_51 rfl (lv_at hl 1 rfl) ?_
    refine va_get (D := D) (ci := 9) (v := .ref a22) (C := RX9) (T := TX9) (N := 52) hx hb hts (fun _ h => List.mem_cons_of_mem _ (List.mem_append_left _ (List.mem_append_right _ h))) hown hK hP 0 rfl rfl 22 (by decide) (hts (.fieldLink RX9 75 "LitmusHallModel" "now" "[I") (by decide +kernel)) (fun _ h9 => h9) rfl dX9_put_52 ?_
    refine lv_iload hx hb dX9_put_55 (lv_at hl 0 rfl) ?_
    refine gy_ild (i := (16 + (13 * k))) hx hb hK hP 1 rfl (by omega) (by omega) dX9_put_57 ?_
    refine gx_top (y := nI (rz k)) (by rw [pk_un (by omega)]; exact e2) ?_
    refine lv_imul hx hb dX9_put_58 ?_
    refine gx_top (y := nI (2 * (rz k))) (pk_mul 2 (rz k)) ?_
    refine lv_iadd hx hb dX9_put_59 ?_
    refine gx_top (y := nI (((16 + (13 * k)) + 2) + (2 * (rz k)))) (nI_add ((16 + (13 * k)) + 2) (2 * (rz k))) ?_
    refine lv_iload_n hx hb dX9_put_60 rfl (lv_at hl 4 rfl) ?_
    refine gy_ist (i := (((16 + (13 * k)) + 2) + (2 * (rz k)))) hx hb hK hP hD hS 1 rfl (by omega) (by omega) dX9_put_61 (fun H locs hP hD hS => ?_)
    have hP : va_P D vwCl [(h0, .inr (9, [v0, v1, v2, v3, v4, v5, v6, v7, v8, v9, v10, v11, v12, v13, v14, v15, v16, v17, v18, v19, v20, v21, .ref a22, v23, v24, v25, v26, v27, v28, v29, v30, v31, v32, v33, v34, v35, v36, v37, v38, v39, v40, v41, v42, v43, v44, v45, v46, v47, v48, v49, v50, v51])), (a22, .inl (cI, 58, .inl (upd (upd nw (((16 + (13 * k)) + 1) + (2 * (rz k))) (nI x)) (((16 + (13 * k)) + 2) + (2 * (rz k))) v)))] H := hP
    have hD : va_D A [(h0, .inr (9, [v0, v1, v2, v3, v4, v5, v6, v7, v8, v9, v10, v11, v12, v13, v14, v15, v16, v17, v18, v19, v20, v21, .ref a22, v23, v24, v25, v26, v27, v28, v29, v30, v31, v32, v33, v34, v35, v36, v37, v38, v39, v40, v41, v42, v43, v44, v45, v46, v47, v48, v49, v50, v51])), (a22, .inl (cI, 58, .inl (upd (upd nw (((16 + (13 * k)) + 1) + (2 * (rz k))) (nI x)) (((16 + (13 * k)) + 2) + (2 * (rz k))) v)))] := hD
    refine lv_aload_n hx hb dX9_put_62 rfl (lv_at hl 1 rfl) ?_
    refine va_get (D := D) (ci := 9) (v := .ref a22) (C := RX9) (T := TX9) (N := 52) hx hb hts (fun _ h => List.mem_cons_of_mem _ (List.mem_append_left _ (List.mem_append_right _ h))) hown hK hP 0 rfl rfl 22 (by decide) (hts (.fieldLink RX9 75 "LitmusHallModel" "now" "[I") (by decide +kernel)) (fun _ h9 => h9) rfl dX9_put_63 ?_
    refine lv_iload hx hb dX9_put_66 (lv_at hl 0 rfl) ?_
    refine lv_dup2_11 hx hb dX9_put_68 rfl rfl ?_
    refine gy_ild (i := (16 + (13 * k))) hx hb hK hP 1 rfl (by omega) (by omega) dX9_put_69 ?_
    refine gx_top (y := nI (rz k)) (by rw [pk_un (by omega), pk_un (by omega)]; exact e2) ?_
    refine lv_iconst (v := 1) hx hb dX9_put_70 (by decide) ?_
    refine lv_iadd hx hb dX9_put_71 ?_
    refine gx_top (y := nI ((rz k) + 1)) (nI_add (rz k) 1) ?_
    refine gy_ist (i := (16 + (13 * k))) hx hb hK hP hD hS 1 rfl (by omega) (by omega) dX9_put_72 (fun H locs hP hD hS => ?_)
    have hP : va_P D vwCl [(h0, .inr (9, [v0, v1, v2, v3, v4, v5, v6, v7, v8, v9, v10, v11, v12, v13, v14, v15, v16, v17, v18, v19, v20, v21, .ref a22, v23, v24, v25, v26, v27, v28, v29, v30, v31, v32, v33, v34, v35, v36, v37, v38, v39, v40, v41, v42, v43, v44, v45, v46, v47, v48, v49, v50, v51])), (a22, .inl (cI, 58, .inl (upd (upd (upd nw (((16 + (13 * k)) + 1) + (2 * (rz k))) (nI x)) (((16 + (13 * k)) + 2) + (2 * (rz k))) v) (16 + (13 * k)) (nI ((rz k) + 1)))))] H := hP
    have hD : va_D A [(h0, .inr (9, [v0, v1, v2, v3, v4, v5, v6, v7, v8, v9, v10, v11, v12, v13, v14, v15, v16, v17, v18, v19, v20, v21, .ref a22, v23, v24, v25, v26, v27, v28, v29, v30, v31, v32, v33, v34, v35, v36, v37, v38, v39, v40, v41, v42, v43, v44, v45, v46, v47, v48, v49, v50, v51])), (a22, .inl (cI, 58, .inl (upd (upd (upd nw (((16 + (13 * k)) + 1) + (2 * (rz k))) (nI x)) (((16 + (13 * k)) + 2) + (2 * (rz k))) v) (16 + (13 * k)) (nI ((rz k) + 1)))))] := hD
    exact gx_vret (w' := [(h0, .inr (9, [v0, v1, v2, v3, v4, v5, v6, v7, v8, v9, v10, v11, v12, v13, v14, v15, v16, v17, v18, v19, v20, v21, .ref a22, v23, v24, v25, v26, v27, v28, v29, v30, v31, v32, v33, v34, v35, v36, v37, v38, v39, v40, v41, v42, v43, v44, v45, v46, v47, v48, v49, v50, v51])), (a22, .inl (cI, 58, .inl (upd (upd (upd nw (((16 + (13 * k)) + 1) + (2 * (rz k))) (nI x)) (((16 + (13 * k)) + 2) + (2 * (rz k))) v) (16 + (13 * k)) (nI ((rz k) + 1)))))]) hx hb hr hlk hK hP hD hS (Nat.le_of_ble_eq_true rfl) (Nat.le_of_ble_eq_true rfl) dX9_put_73 ⟨(upd (upd (upd nw (((16 + (13 * k)) + 1) + (2 * (rz k))) (nI x)) (((16 + (13 * k)) + 2) + (2 * (rz k))) v) (16 + (13 * k)) (nI ((rz k) + 1))), (updN rz k (rz k + 1)), (gW9_put hG hk hx0 hzz), (Or.inr ⟨c_1, rfl⟩), (Or.inr ⟨c_1, rfl⟩), rfl⟩
  · refine lv_aload_n hx hb dX9_put_5 rfl (lv_at hl 0 rfl) ?_
    refine va_get (D := D) (ci := 9) (v := .ref a22) (C := RX9) (T := TX9) (N := 52) hx hb hts (fun _ h => List.mem_cons_of_mem _ (List.mem_append_left _ (List.mem_append_right _ h))) hown hK hP 0 rfl rfl 22 (by decide) (hts (.fieldLink RX9 75 "LitmusHallModel" "now" "[I") (by decide +kernel)) (fun _ h9 => h9) rfl dX9_put_6 ?_
    refine lv_bipush (v := 12) hx hb dX9_put_9 (by decide) ?_
    refine lv_iload_n hx hb dX9_put_11 rfl (lv_at hl 2 rfl) ?_
    refine lv_iadd hx hb dX9_put_12 ?_
    refine gx_top (y := nI (12 + x)) (nI_add 12 x) ?_
    refine lv_iload_n hx hb dX9_put_13 rfl (lv_at hl 3 rfl) ?_
    refine gy_ist (i := (12 + x)) hx hb hK hP hD hS 1 rfl (by omega) (by omega) dX9_put_14 (fun H locs hP hD hS => ?_)
    have hP : va_P D vwCl [(h0, .inr (9, [v0, v1, v2, v3, v4, v5, v6, v7, v8, v9, v10, v11, v12, v13, v14, v15, v16, v17, v18, v19, v20, v21, .ref a22, v23, v24, v25, v26, v27, v28, v29, v30, v31, v32, v33, v34, v35, v36, v37, v38, v39, v40, v41, v42, v43, v44, v45, v46, v47, v48, v49, v50, v51])), (a22, .inl (cI, 58, .inl (upd nw (12 + x) v)))] H := hP
    have hD : va_D A [(h0, .inr (9, [v0, v1, v2, v3, v4, v5, v6, v7, v8, v9, v10, v11, v12, v13, v14, v15, v16, v17, v18, v19, v20, v21, .ref a22, v23, v24, v25, v26, v27, v28, v29, v30, v31, v32, v33, v34, v35, v36, v37, v38, v39, v40, v41, v42, v43, v44, v45, v46, v47, v48, v49, v50, v51])), (a22, .inl (cI, 58, .inl (upd nw (12 + x) v)))] := hD
    exact gx_vret (w' := [(h0, .inr (9, [v0, v1, v2, v3, v4, v5, v6, v7, v8, v9, v10, v11, v12, v13, v14, v15, v16, v17, v18, v19, v20, v21, .ref a22, v23, v24, v25, v26, v27, v28, v29, v30, v31, v32, v33, v34, v35, v36, v37, v38, v39, v40, v41, v42, v43, v44, v45, v46, v47, v48, v49, v50, v51])), (a22, .inl (cI, 58, .inl (upd nw (12 + x) v)))]) hx hb hr hlk hK hP hD hS (Nat.le_of_ble_eq_true rfl) (Nat.le_of_ble_eq_true rfl) dX9_put_15 ⟨(upd nw (12 + x) v), rz, (gW9_out hG (by omega)), (Or.inl ⟨c_1, rfl⟩), (Or.inl ⟨c_1, rfl⟩), rfl⟩
