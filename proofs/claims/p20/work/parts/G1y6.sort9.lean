
def wsP_x_told9 : List Cond := .code yX9_told cX9_told 4 (some .int) :: (([.fieldLink RX9 44 "LitmusHallModel" "state" "[I"] ++ wsX90) ++ [])
theorem gW_x_told9 : wsP_x_told9.all goodWord = true := by unfold wsP_x_told9; exact gw_mk (by decide +kernel) rfl
set_option maxHeartbeats 4000000 in
set_option maxRecDepth 100000 in
theorem x_told9 (l : Launch) (D : va_G) (cI cB cZ : ClassId) (h0 : Nat) (a12 : Nat) (v0 : Value) (v1 : Value) (v2 : Value) (v3 : Value) (v4 : Value) (v5 : Value) (v6 : Value) (v7 : Value) (v8 : Value) (v9 : Value) (v10 : Value) (v11 : Value) (v13 : Value) (v14 : Value) (v15 : Value) (v16 : Value) (v17 : Value) (v18 : Value) (v19 : Value) (v20 : Value) (v21 : Value) (v22 : Value) (v23 : Value) (v24 : Value) (v25 : Value) (v26 : Value) (v27 : Value) (v28 : Value) (v29 : Value) (v30 : Value) (v31 : Value) (v32 : Value) (v33 : Value) (v34 : Value) (v35 : Value) (v36 : Value) (v37 : Value) (v38 : Value) (v39 : Value) (v40 : Value) (v41 : Value) (v42 : Value) (v43 : Value) (v44 : Value) (v45 : Value) (v46 : Value) (v47 : Value) (v48 : Value) (v49 : Value) (v50 : Value) (v51 : Value) (sf : Nat → Int32) (s9 : Nat) (n : Nat) (i : Nat) (hs : s9 < 3) (hn : n < 3000) (hi : i < 13) : gMi l yX9_told wsP_x_told9 ({ frames := 0, cells := 0, slots := 0, locals := 0 }) D cI cB cZ [] [.ref h0, .int (nI s9), .int (nI n), .int (nI i)] [(h0, .inr (9, [v0, v1, v2, v3, v4, v5, v6, v7, v8, v9, v10, v11, .ref a12, v13, v14, v15, v16, v17, v18, v19, v20, v21, v22, v23, v24, v25, v26, v27, v28, v29, v30, v31, v32, v33, v34, v35, v36, v37, v38, v39, v40, v41, v42, v43, v44, v45, v46, v47, v48, v49, v50, v51])), (a12, .inl (cI, 522000, .inl sf))] (fun r9 w9 => ∃ z : Int32, (z = gTo sf s9 n i) ∧ r9 = z ∧ w9 = [(h0, .inr (9, [v0, v1, v2, v3, v4, v5, v6, v7, v8, v9, v10, v11, .ref a12, v13, v14, v15, v16, v17, v18, v19, v20, v21, v22, v23, v24, v25, v26, v27, v28, v29, v30, v31, v32, v33, v34, v35, v36, v37, v38, v39, v40, v41, v42, v43, v44, v45, v46, v47, v48, v49, v50, v51])), (a12, .inl (cI, 522000, .inl sf))]) := by
  refine gMi.of (cc := cX9_told) (maxL := 4) (ret := (some .int)) (by decide) rfl (Nat.le_of_ble_eq_true rfl) (fun p e s m below meth c A ls hx hb hr hlk hml hts hown hin hA hP hK hD hS hN hl => ?_)
  have hown : s.vm.findClass RX9 = some m.cls := hown
  have hl : lv_has ls 4 [(0, .ref h0), (1, .int (nI s9)), (2, .int (nI n)), (3, .int (nI i))] := hl
  refine lv_aload_n hx hb dX9_told_0 rfl (lv_at hl 0 rfl) ?_
  refine va_get (D := D) (ci := 9) (v := .ref a12) (C := RX9) (T := TX9) (N := 52) hx hb hts (fun _ h => List.mem_cons_of_mem _ (List.mem_append_left _ (List.mem_append_right _ h))) hown hK hP 0 rfl rfl 12 (by decide) (hts (.fieldLink RX9 44 "LitmusHallModel" "state" "[I") (by decide +kernel)) (fun _ h9 => h9) rfl dX9_told_1 ?_
  refine lv_sipush (v := 3000) hx hb dX9_told_4 (by decide) ?_
  refine lv_iload_n hx hb dX9_told_7 rfl (lv_at hl 1 rfl) ?_
  refine lv_imul hx hb dX9_told_8 ?_
  refine gx_top (y := nI (3000 * s9)) (pk_mul 3000 s9) ?_
  refine lv_iload_n hx hb dX9_told_9 rfl (lv_at hl 2 rfl) ?_
  refine lv_iadd hx hb dX9_told_10 ?_
  refine gx_top (y := nI ((3000 * s9) + n)) (nI_add (3000 * s9) n) ?_
  refine lv_bipush (v := 58) hx hb dX9_told_11 (by decide) ?_
  refine lv_imul hx hb dX9_told_13 ?_
  refine gx_top (y := nI (((3000 * s9) + n) * 58)) (pk_mul ((3000 * s9) + n) 58) ?_
  refine lv_iconst (v := 3) hx hb dX9_told_14 (by decide) ?_
  refine lv_iadd hx hb dX9_told_15 ?_
  refine gx_top (y := nI ((((3000 * s9) + n) * 58) + 3)) (nI_add (((3000 * s9) + n) * 58) 3) ?_
  refine lv_iload_n hx hb dX9_told_16 rfl (lv_at hl 3 rfl) ?_
  refine lv_iadd hx hb dX9_told_17 ?_
  refine gx_top (y := nI (((((3000 * s9) + n) * 58) + 3) + i)) (nI_add ((((3000 * s9) + n) * 58) + 3) i) ?_
  refine gy_ild (i := (((((3000 * s9) + n) * 58) + 3) + i)) hx hb hK hP 1 rfl (by omega) (by omega) dX9_told_18 ?_
  exact gx_iret (w' := [(h0, .inr (9, [v0, v1, v2, v3, v4, v5, v6, v7, v8, v9, v10, v11, .ref a12, v13, v14, v15, v16, v17, v18, v19, v20, v21, v22, v23, v24, v25, v26, v27, v28, v29, v30, v31, v32, v33, v34, v35, v36, v37, v38, v39, v40, v41, v42, v43, v44, v45, v46, v47, v48, v49, v50, v51])), (a12, .inl (cI, 522000, .inl sf))]) hx hb hr hlk hK hP hD hS (Nat.le_of_ble_eq_true rfl) (Nat.le_of_ble_eq_true rfl) dX9_told_19 ⟨(sf (((((3000 * s9) + n) * 58) + 3) + i)), rfl, rfl, rfl⟩
def wsP_x_compare9 : List Cond := .code yX9_compare cX9_compare 8 (some .int) :: (([.methodLink RX9 324 yX9_told, .instanceMethod yX9_told, .selects RX9 yX9_told yX9_told, .initialized RX9]) ++ (wsP_x_told9 ++ []))
theorem gW_x_compare9 : wsP_x_compare9.all goodWord = true := by unfold wsP_x_compare9; exact gw_mk (by decide +kernel) (gw_app gW_x_told9 rfl)
set_option maxRecDepth 20000 in
theorem gP_x_compare9__x_told9 : GoodIn wsP_x_compare9 (wsV RX9 324 RX9 yX9_told wsP_x_told9) := gw_in (pre := [.methodLink RX9 324 yX9_told, .instanceMethod yX9_told, .selects RX9 yX9_told yX9_told, .initialized RX9]) (by decide +kernel) (fun _ h => List.mem_cons_of_mem _ (List.mem_append_right _ (List.mem_append_left _ h))) gW_x_told9
set_option maxHeartbeats 4000000 in
set_option maxRecDepth 100000 in
theorem x_compare9 (l : Launch) (D : va_G) (cI cB cZ : ClassId) (h0 : Nat) (a12 : Nat) (v0 : Value) (v1 : Value) (v2 : Value) (v3 : Value) (v4 : Value) (v5 : Value) (v6 : Value) (v7 : Value) (v8 : Value) (v9 : Value) (v10 : Value) (v11 : Value) (v13 : Value) (v14 : Value) (v15 : Value) (v16 : Value) (v17 : Value) (v18 : Value) (v19 : Value) (v20 : Value) (v21 : Value) (v22 : Value) (v23 : Value) (v24 : Value) (v25 : Value) (v26 : Value) (v27 : Value) (v28 : Value) (v29 : Value) (v30 : Value) (v31 : Value) (v32 : Value) (v33 : Value) (v34 : Value) (v35 : Value) (v36 : Value) (v37 : Value) (v38 : Value) (v39 : Value) (v40 : Value) (v41 : Value) (v42 : Value) (v43 : Value) (v44 : Value) (v45 : Value) (v46 : Value) (v47 : Value) (v48 : Value) (v49 : Value) (v50 : Value) (v51 : Value) (sf : Nat → Int32) (s9 : Nat) (n : Nat) (t9 : Nat) (q : Nat) (hs : s9 < 3) (hn : n < 3000) (ht : t9 < 3) (hq : q < 3000) : gMi l yX9_compare wsP_x_compare9 ({ frames := 1, cells := 0, slots := 0, locals := 23 }) D cI cB cZ [] [.ref h0, .int (nI s9), .int (nI n), .int (nI t9), .int (nI q)] [(h0, .inr (9, [v0, v1, v2, v3, v4, v5, v6, v7, v8, v9, v10, v11, .ref a12, v13, v14, v15, v16, v17, v18, v19, v20, v21, v22, v23, v24, v25, v26, v27, v28, v29, v30, v31, v32, v33, v34, v35, v36, v37, v38, v39, v40, v41, v42, v43, v44, v45, v46, v47, v48, v49, v50, v51])), (a12, .inl (cI, 522000, .inl sf))] (fun r9 w9 => ∃ z : Int32, (gCq z (gTo sf s9 n) (gTo sf t9 q)) ∧ r9 = z ∧ w9 = [(h0, .inr (9, [v0, v1, v2, v3, v4, v5, v6, v7, v8, v9, v10, v11, .ref a12, v13, v14, v15, v16, v17, v18, v19, v20, v21, v22, v23, v24, v25, v26, v27, v28, v29, v30, v31, v32, v33, v34, v35, v36, v37, v38, v39, v40, v41, v42, v43, v44, v45, v46, v47, v48, v49, v50, v51])), (a12, .inl (cI, 522000, .inl sf))]) := by
  refine gMi.of (cc := cX9_compare) (maxL := 8) (ret := (some .int)) (by decide) rfl (Nat.le_of_ble_eq_true rfl) (fun p e s m below meth c A ls hx hb hr hlk hml hts hown hin hA hP hK hD hS hN hl => ?_)
  have hown : s.vm.findClass RX9 = some m.cls := hown
  have hl : lv_has ls 8 [(0, .ref h0), (1, .int (nI s9)), (2, .int (nI n)), (3, .int (nI t9)), (4, .int (nI q))] := hl
  refine lv_iconst (v := 0) hx hb dX9_compare_0 (by decide) ?_
  refine lv_istore (lv' := [(5, .int 0), (0, .ref h0), (1, .int (nI s9)), (2, .int (nI n)), (3, .int (nI t9)), (4, .int (nI q))]) hx hb dX9_compare_1 hl (by decide) rfl (fun ls hl => ?_)
  refine gy_loop0 (I := fun (x9 : Nat) H locs ls => (x9 ≤ 13) ∧ (∀ j, j < x9 → gTo sf s9 n j = gTo sf t9 q j) ∧ va_P D vwCl [(h0, .inr (9, [v0, v1, v2, v3, v4, v5, v6, v7, v8, v9, v10, v11, .ref a12, v13, v14, v15, v16, v17, v18, v19, v20, v21, v22, v23, v24, v25, v26, v27, v28, v29, v30, v31, v32, v33, v34, v35, v36, v37, v38, v39, v40, v41, v42, v43, v44, v45, v46, v47, v48, v49, v50, v51])), (a12, .inl (cI, 522000, .inl sf))] H ∧ va_D A [(h0, .inr (9, [v0, v1, v2, v3, v4, v5, v6, v7, v8, v9, v10, v11, .ref a12, v13, v14, v15, v16, v17, v18, v19, v20, v21, v22, v23, v24, v25, v26, v27, v28, v29, v30, v31, v32, v33, v34, v35, v36, v37, v38, v39, v40, v41, v42, v43, v44, v45, v46, v47, v48, v49, v50, v51])), (a12, .inl (cI, 522000, .inl sf))] ∧ va_S A s.heap H locs ∧ lv_has ls 8 [(5, .int (nI x9)), (0, .ref h0), (1, .int (nI s9)), (2, .int (nI n)), (3, .int (nI t9)), (4, .int (nI q))]) (μ := fun (x9 : Nat) => 13 - x9) (fun x9 H locs ls hI ih3 => ?_) 0 ⟨(by show 0 ≤ 13; exact Nat.le_of_ble_eq_true rfl), (fun j h => absurd h (Nat.not_lt_zero j)), hP, hD, hS, lv_sub hl [0, 1, 2, 3, 4, 5] rfl⟩
  obtain ⟨i, rfl⟩ : ∃ z9, z9 = x9 := ⟨_, rfl⟩
  obtain ⟨hi3_0, hi3_1, hP, hD, hS, hl⟩ := hI
  have hi3_0 : i ≤ 13 := hi3_0
  have hi3_1 : ∀ j, j < i → gTo sf s9 n j = gTo sf t9 q j := hi3_1
  have hP : va_P D vwCl [(h0, .inr (9, [v0, v1, v2, v3, v4, v5, v6, v7, v8, v9, v10, v11, .ref a12, v13, v14, v15, v16, v17, v18, v19, v20, v21, v22, v23, v24, v25, v26, v27, v28, v29, v30, v31, v32, v33, v34, v35, v36, v37, v38, v39, v40, v41, v42, v43, v44, v45, v46, v47, v48, v49, v50, v51])), (a12, .inl (cI, 522000, .inl sf))] H := hP
  have hD : va_D A [(h0, .inr (9, [v0, v1, v2, v3, v4, v5, v6, v7, v8, v9, v10, v11, .ref a12, v13, v14, v15, v16, v17, v18, v19, v20, v21, v22, v23, v24, v25, v26, v27, v28, v29, v30, v31, v32, v33, v34, v35, v36, v37, v38, v39, v40, v41, v42, v43, v44, v45, v46, v47, v48, v49, v50, v51])), (a12, .inl (cI, 522000, .inl sf))] := hD
  have hS : va_S A s.heap H locs := hS
  have hl : lv_has ls 8 [(5, .int (nI i)), (0, .ref h0), (1, .int (nI s9)), (2, .int (nI n)), (3, .int (nI t9)), (4, .int (nI q))] := hl
  refine lv_iload hx hb dX9_compare_3 (lv_at hl 0 rfl) ?_
  refine lv_bipush (v := 13) hx hb dX9_compare_5 (by decide) ?_
  refine gy_ge (a := i) (b := 13) (tgt := 57) hx hb (by omega) (by omega) dX9_compare_7 (by decide) (fun c_1 => ?_) (fun c_1 => ?_)
  · refine lv_iconst (v := 0) hx hb dX9_compare_57 (by decide) ?_
    exact gx_iret (w' := [(h0, .inr (9, [v0, v1, v2, v3, v4, v5, v6, v7, v8, v9, v10, v11, .ref a12, v13, v14, v15, v16, v17, v18, v19, v20, v21, v22, v23, v24, v25, v26, v27, v28, v29, v30, v31, v32, v33, v34, v35, v36, v37, v38, v39, v40, v41, v42, v43, v44, v45, v46, v47, v48, v49, v50, v51])), (a12, .inl (cI, 522000, .inl sf))]) hx hb hr hlk hK hP hD hS (Nat.le_of_ble_eq_true rfl) (Nat.le_of_ble_eq_true rfl) dX9_compare_58 ⟨0, (gCq_e (fun j h => hi3_1 j (by omega))), rfl, rfl⟩
  · refine lv_aload_n hx hb dX9_compare_10 rfl (lv_at hl 1 rfl) ?_
    refine lv_iload_n hx hb dX9_compare_11 rfl (lv_at hl 2 rfl) ?_
    refine lv_iload_n hx hb dX9_compare_12 rfl (lv_at hl 3 rfl) ?_
    refine lv_iload hx hb dX9_compare_13 (lv_at hl 0 rfl) ?_
    refine gx_goi (wc := [(h0, .inr (9, [v0, v1, v2, v3, v4, v5, v6, v7, v8, v9, v10, v11, .ref a12, v13, v14, v15, v16, v17, v18, v19, v20, v21, v22, v23, v24, v25, v26, v27, v28, v29, v30, v31, v32, v33, v34, v35, v36, v37, v38, v39, v40, v41, v42, v43, v44, v45, v46, v47, v48, v49, v50, v51])), (a12, .inl (cI, 522000, .inl sf))]) (wr := []) (va_runV (As := [.int (nI s9), .int (nI n), .int (nI i)]) (rest := []) ⟨hx, hb, hml, hown, hts⟩ (x_told9 l D cI cB cZ h0 a12 (v0) (v1) (v2) (v3) (v4) (v5) (v6) (v7) (v8) (v9) (v10) (v11) (v13) (v14) (v15) (v16) (v17) (v18) (v19) (v20) (v21) (v22) (v23) (v24) (v25) (v26) (v27) (v28) (v29) (v30) (v31) (v32) (v33) (v34) (v35) (v36) (v37) (v38) (v39) (v40) (v41) (v42) (v43) (v44) (v45) (v46) (v47) (v48) (v49) (v50) (v51) sf s9 n i (by omega) (by omega) (by omega) _) (cwV 3 hts gP_x_compare9__x_told9 rfl rfl rfl (by decide +kernel) ⟨Nat.le_of_ble_eq_true rfl, Nat.le_of_ble_eq_true rfl⟩) (gx_preV (ci := 9) (q0 := 0) hK gN.nil hP hD [0, 1] rfl rfl rfl rfl) rfl rfl hl.1 rfl (lv_room (Nat.le_of_ble_eq_true rfl)) dX9_compare_15 ⟨Nat.le_of_ble_eq_true rfl, Nat.le_of_ble_eq_true rfl⟩) hP hD hS hA [0, 1] [] rfl rfl rfl (by decide) (fun r1 w1 H locs hp hP hD hS => ?_)
    obtain ⟨e_2, hx15_0, h9, rfl⟩ := hp
    have h9 := h9.symm
    subst h9
    have hx15_0 : e_2 = gTo sf s9 n i := hx15_0
    refine lv_istore (lv' := [(6, .int e_2), (5, .int (nI i)), (0, .ref h0), (1, .int (nI s9)), (2, .int (nI n)), (3, .int (nI t9)), (4, .int (nI q))]) hx hb dX9_compare_18 hl (by decide) rfl (fun ls hl => ?_)
    refine lv_aload_n hx hb dX9_compare_20 rfl (lv_at hl 2 rfl) ?_
    refine lv_iload_n hx hb dX9_compare_21 rfl (lv_at hl 5 rfl) ?_
    refine lv_iload hx hb dX9_compare_22 (lv_at hl 6 rfl) ?_
    refine lv_iload hx hb dX9_compare_24 (lv_at hl 1 rfl) ?_
    refine gx_goi (wc := [(h0, .inr (9, [v0, v1, v2, v3, v4, v5, v6, v7, v8, v9, v10, v11, .ref a12, v13, v14, v15, v16, v17, v18, v19, v20, v21, v22, v23, v24, v25, v26, v27, v28, v29, v30, v31, v32, v33, v34, v35, v36, v37, v38, v39, v40, v41, v42, v43, v44, v45, v46, v47, v48, v49, v50, v51])), (a12, .inl (cI, 522000, .inl sf))]) (wr := []) (va_runV (As := [.int (nI t9), .int (nI q), .int (nI i)]) (rest := []) ⟨hx, hb, hml, hown, hts⟩ (x_told9 l D cI cB cZ h0 a12 (v0) (v1) (v2) (v3) (v4) (v5) (v6) (v7) (v8) (v9) (v10) (v11) (v13) (v14) (v15) (v16) (v17) (v18) (v19) (v20) (v21) (v22) (v23) (v24) (v25) (v26) (v27) (v28) (v29) (v30) (v31) (v32) (v33) (v34) (v35) (v36) (v37) (v38) (v39) (v40) (v41) (v42) (v43) (v44) (v45) (v46) (v47) (v48) (v49) (v50) (v51) sf t9 q i (by omega) (by omega) (by omega) _) (cwV 3 hts gP_x_compare9__x_told9 rfl rfl rfl (by decide +kernel) ⟨Nat.le_of_ble_eq_true rfl, Nat.le_of_ble_eq_true rfl⟩) (gx_preV (ci := 9) (q0 := 0) hK gN.nil hP hD [0, 1] rfl rfl rfl rfl) rfl rfl hl.1 rfl (lv_room (Nat.le_of_ble_eq_true rfl)) dX9_compare_26 ⟨Nat.le_of_ble_eq_true rfl, Nat.le_of_ble_eq_true rfl⟩) hP hD hS hA [0, 1] [] rfl rfl rfl (by decide) (fun r1 w1 H locs hp hP hD hS => ?_)
    obtain ⟨e_3, hx26_0, h9, rfl⟩ := hp
    have h9 := h9.symm
    subst h9
    have hx26_0 : e_3 = gTo sf t9 q i := hx26_0
    refine lv_istore (lv' := [(7, .int e_3), (6, .int e_2), (5, .int (nI i)), (0, .ref h0), (1, .int (nI s9)), (2, .int (nI n)), (3, .int (nI t9)), (4, .int (nI q))]) hx hb dX9_compare_29 hl (by decide) rfl (fun ls hl => ?_)
    refine lv_iload hx hb dX9_compare_31 (lv_at hl 1 rfl) ?_
    refine lv_iload hx hb dX9_compare_33 (lv_at hl 0 rfl) ?_
    refine lv_icmp_eq (tgt := 51) hx hb dX9_compare_35 (by decide) (fun c_4 => ?_) (fun c_4 => ?_)
    · refine lv_iinc (v := nI (i + 1)) (lv' := [(5, .int (nI (i + 1))), (7, .int e_3), (6, .int e_2), (0, .ref h0), (1, .int (nI s9)), (2, .int (nI n)), (3, .int (nI t9)), (4, .int (nI q))]) hx hb dX9_compare_51 hl (k := 2) rfl (nI_add i 1) (by decide) rfl (fun ls hl => ?_)
      refine lv_goto (tgt := 3) hx hb dX9_compare_54 (by decide) ?_
      have hP : va_P D vwCl [(h0, .inr (9, [v0, v1, v2, v3, v4, v5, v6, v7, v8, v9, v10, v11, .ref a12, v13, v14, v15, v16, v17, v18, v19, v20, v21, v22, v23, v24, v25, v26, v27, v28, v29, v30, v31, v32, v33, v34, v35, v36, v37, v38, v39, v40, v41, v42, v43, v44, v45, v46, v47, v48, v49, v50, v51])), (a12, .inl (cI, 522000, .inl sf))] H := hP
      have hD : va_D A [(h0, .inr (9, [v0, v1, v2, v3, v4, v5, v6, v7, v8, v9, v10, v11, .ref a12, v13, v14, v15, v16, v17, v18, v19, v20, v21, v22, v23, v24, v25, v26, v27, v28, v29, v30, v31, v32, v33, v34, v35, v36, v37, v38, v39, v40, v41, v42, v43, v44, v45, v46, v47, v48, v49, v50, v51])), (a12, .inl (cI, 522000, .inl sf))] := hD
      exact ih3 (i + 1) H locs ls ⟨(by show (i + 1) ≤ 13; omega), (fun j hj => by by_cases e9 : j = i; (subst e9; exact hx15_0.symm.trans (Eq.trans c_4 hx26_0)); exact hi3_1 j (by omega)), hP, hD, hS, lv_sub hl [0, 3, 4, 5, 6, 7] rfl⟩ (by show 13 - (i + 1) < 13 - i; omega)
    · refine lv_iload hx hb dX9_compare_38 (lv_at hl 1 rfl) ?_
      refine lv_iload hx hb dX9_compare_40 (lv_at hl 0 rfl) ?_
      refine lv_icmp_ge (tgt := 49) hx hb dX9_compare_42 (by decide) (fun c_5 => ?_) (fun c_5 => ?_)
      · refine lv_iconst (v := 1) hx hb dX9_compare_49 (by decide) ?_
        have hP : va_P D vwCl [(h0, .inr (9, [v0, v1, v2, v3, v4, v5, v6, v7, v8, v9, v10, v11, .ref a12, v13, v14, v15, v16, v17, v18, v19, v20, v21, v22, v23, v24, v25, v26, v27, v28, v29, v30, v31, v32, v33, v34, v35, v36, v37, v38, v39, v40, v41, v42, v43, v44, v45, v46, v47, v48, v49, v50, v51])), (a12, .inl (cI, 522000, .inl sf))] H := hP
        have hD : va_D A [(h0, .inr (9, [v0, v1, v2, v3, v4, v5, v6, v7, v8, v9, v10, v11, .ref a12, v13, v14, v15, v16, v17, v18, v19, v20, v21, v22, v23, v24, v25, v26, v27, v28, v29, v30, v31, v32, v33, v34, v35, v36, v37, v38, v39, v40, v41, v42, v43, v44, v45, v46, v47, v48, v49, v50, v51])), (a12, .inl (cI, 522000, .inl sf))] := hD
        exact gx_iret (w' := [(h0, .inr (9, [v0, v1, v2, v3, v4, v5, v6, v7, v8, v9, v10, v11, .ref a12, v13, v14, v15, v16, v17, v18, v19, v20, v21, v22, v23, v24, v25, v26, v27, v28, v29, v30, v31, v32, v33, v34, v35, v36, v37, v38, v39, v40, v41, v42, v43, v44, v45, v46, v47, v48, v49, v50, v51])), (a12, .inl (cI, 522000, .inl sf))]) hx hb hr hlk hK hP hD hS (Nat.le_of_ble_eq_true rfl) (Nat.le_of_ble_eq_true rfl) dX9_compare_50 ⟨1, (by first | exact gCq_l (by omega) hi3_1 hx15_0 hx26_0 c_5 | exact gCq_g (by omega) hi3_1 hx15_0 hx26_0 c_4 c_5), rfl, rfl⟩
      · refine lv_iconst (v := (-1)) hx hb dX9_compare_45 (by decide) ?_
        refine lv_goto (tgt := 50) hx hb dX9_compare_46 (by decide) ?_
        have hP : va_P D vwCl [(h0, .inr (9, [v0, v1, v2, v3, v4, v5, v6, v7, v8, v9, v10, v11, .ref a12, v13, v14, v15, v16, v17, v18, v19, v20, v21, v22, v23, v24, v25, v26, v27, v28, v29, v30, v31, v32, v33, v34, v35, v36, v37, v38, v39, v40, v41, v42, v43, v44, v45, v46, v47, v48, v49, v50, v51])), (a12, .inl (cI, 522000, .inl sf))] H := hP
        have hD : va_D A [(h0, .inr (9, [v0, v1, v2, v3, v4, v5, v6, v7, v8, v9, v10, v11, .ref a12, v13, v14, v15, v16, v17, v18, v19, v20, v21, v22, v23, v24, v25, v26, v27, v28, v29, v30, v31, v32, v33, v34, v35, v36, v37, v38, v39, v40, v41, v42, v43, v44, v45, v46, v47, v48, v49, v50, v51])), (a12, .inl (cI, 522000, .inl sf))] := hD
        exact gx_iret (w' := [(h0, .inr (9, [v0, v1, v2, v3, v4, v5, v6, v7, v8, v9, v10, v11, .ref a12, v13, v14, v15, v16, v17, v18, v19, v20, v21, v22, v23, v24, v25, v26, v27, v28, v29, v30, v31, v32, v33, v34, v35, v36, v37, v38, v39, v40, v41, v42, v43, v44, v45, v46, v47, v48, v49, v50, v51])), (a12, .inl (cI, 522000, .inl sf))]) hx hb hr hlk hK hP hD hS (Nat.le_of_ble_eq_true rfl) (Nat.le_of_ble_eq_true rfl) dX9_compare_50 ⟨(-1), (by first | exact gCq_l (by omega) hi3_1 hx15_0 hx26_0 c_5 | exact gCq_g (by omega) hi3_1 hx15_0 hx26_0 c_4 c_5), rfl, rfl⟩
def wsP_x_sink9 : List Cond := .code yX9_sink cX9_sink 8 none :: (([.fieldLink RX9 69 "LitmusHallModel" "ends" "[I", .methodLink RX9 327 yX9_compare, .instanceMethod yX9_compare, .selects RX9 yX9_compare yX9_compare, .initialized RX9] ++ wsX90) ++ (wsP_x_compare9 ++ []))
theorem gW_x_sink9 : wsP_x_sink9.all goodWord = true := by unfold wsP_x_sink9; exact gw_mk (by decide +kernel) (gw_app gW_x_compare9 rfl)
set_option maxRecDepth 20000 in
theorem gP_x_sink9__x_compare9 : GoodIn wsP_x_sink9 (wsV RX9 327 RX9 yX9_compare wsP_x_compare9) := gw_in (pre := [.methodLink RX9 327 yX9_compare, .instanceMethod yX9_compare, .selects RX9 yX9_compare yX9_compare, .initialized RX9]) (by decide +kernel) (fun _ h => List.mem_cons_of_mem _ (List.mem_append_right _ (List.mem_append_left _ h))) gW_x_compare9
set_option maxHeartbeats 4000000 in
set_option maxRecDepth 100000 in
theorem x_sink9 (l : Launch) (D : va_G) (cI cB cZ : ClassId) (h0 : Nat) (a12 : Nat) (a20 : Nat) (v0 : Value) (v1 : Value) (v2 : Value) (v3 : Value) (v4 : Value) (v5 : Value) (v6 : Value) (v7 : Value) (v8 : Value) (v9 : Value) (v10 : Value) (v11 : Value) (v13 : Value) (v14 : Value) (v15 : Value) (v16 : Value) (v17 : Value) (v18 : Value) (v19 : Value) (v21 : Value) (v22 : Value) (v23 : Value) (v24 : Value) (v25 : Value) (v26 : Value) (v27 : Value) (v28 : Value) (v29 : Value) (v30 : Value) (v31 : Value) (v32 : Value) (v33 : Value) (v34 : Value) (v35 : Value) (v36 : Value) (v37 : Value) (v38 : Value) (v39 : Value) (v40 : Value) (v41 : Value) (v42 : Value) (v43 : Value) (v44 : Value) (v45 : Value) (v46 : Value) (v47 : Value) (v48 : Value) (v49 : Value) (v50 : Value) (v51 : Value) (sf : Nat → Int32) (en : Nat → Int32) (s9 : Nat) (st : Nat) (n : Nat) (sz : Nat) (eA : Nat → Nat) (hs : s9 < 3) (hn : n ≤ 3000) (hst : st < n) (hsz : sz ≤ 3000) (hE : gEz en (3000 * s9) n sz) (heA : ∀ i, i < n → en (3000 * s9 + i) = nI (eA i) ∧ eA i < sz) (hdA : ∀ i j, i < j → j < n → eA i ≠ eA j) (hHe : gHe (gTo sf s9) eA (st + 1) n) : gMv l yX9_sink wsP_x_sink9 ({ frames := 2, cells := 0, slots := 0, locals := 50 }) D cI cB cZ [] [.ref h0, .int (nI s9), .int (nI st), .int (nI n)] [(h0, .inr (9, [v0, v1, v2, v3, v4, v5, v6, v7, v8, v9, v10, v11, .ref a12, v13, v14, v15, v16, v17, v18, v19, .ref a20, v21, v22, v23, v24, v25, v26, v27, v28, v29, v30, v31, v32, v33, v34, v35, v36, v37, v38, v39, v40, v41, v42, v43, v44, v45, v46, v47, v48, v49, v50, v51])), (a12, .inl (cI, 522000, .inl sf)), (a20, .inl (cI, 9000, .inl en))] (fun w9 => ∃ en9 : Nat → Int32, (gEz en9 (3000 * s9) n sz) ∧ (gFm en9 en (3000 * s9) n) ∧ (gSo (gTo sf s9) eA en9 (3000 * s9) n st) ∧ w9 = [(h0, .inr (9, [v0, v1, v2, v3, v4, v5, v6, v7, v8, v9, v10, v11, .ref a12, v13, v14, v15, v16, v17, v18, v19, .ref a20, v21, v22, v23, v24, v25, v26, v27, v28, v29, v30, v31, v32, v33, v34, v35, v36, v37, v38, v39, v40, v41, v42, v43, v44, v45, v46, v47, v48, v49, v50, v51])), (a12, .inl (cI, 522000, .inl sf)), (a20, .inl (cI, 9000, .inl en9))]) := by
  refine gMv.of (cc := cX9_sink) (maxL := 8) (ret := none) (by decide) rfl (Nat.le_of_ble_eq_true rfl) (fun p e s m below meth c A ls hx hb hr hlk hml hts hown hin hA hP hK hD hS hN hl => ?_)
  have hown : s.vm.findClass RX9 = some m.cls := hown
  have hl : lv_has ls 8 [(0, .ref h0), (1, .int (nI s9)), (2, .int (nI st)), (3, .int (nI n))] := hl
  refine lv_iload_n hx hb dX9_sink_0 rfl (lv_at hl 2 rfl) ?_
  refine lv_istore (lv' := [(4, .int (nI st)), (0, .ref h0), (1, .int (nI s9)), (2, .int (nI st)), (3, .int (nI n))]) hx hb dX9_sink_1 hl (by decide) rfl (fun ls hl => ?_)
  refine lv_aload_n hx hb dX9_sink_3 rfl (lv_at hl 1 rfl) ?_
  refine va_get (D := D) (ci := 9) (v := .ref a20) (C := RX9) (T := TX9) (N := 52) hx hb hts (fun _ h => List.mem_cons_of_mem _ (List.mem_append_left _ (List.mem_append_right _ h))) hown hK hP 0 rfl rfl 20 (by decide) (hts (.fieldLink RX9 69 "LitmusHallModel" "ends" "[I") (by decide +kernel)) (fun _ h9 => h9) rfl dX9_sink_4 ?_
  refine lv_sipush (v := 3000) hx hb dX9_sink_7 (by decide) ?_
  refine lv_iload_n hx hb dX9_sink_10 rfl (lv_at hl 2 rfl) ?_
  refine lv_imul hx hb dX9_sink_11 ?_
  refine gx_top (y := nI (3000 * s9)) (pk_mul 3000 s9) ?_
  refine lv_iload hx hb dX9_sink_12 (lv_at hl 0 rfl) ?_
  refine lv_iadd hx hb dX9_sink_14 ?_
  refine gx_top (y := nI ((3000 * s9) + st)) (nI_add (3000 * s9) st) ?_
  obtain ⟨x0, hx0, ex0⟩ := hE st hst
  have hx0A : x0 = eA st := (nI_eq (by omega) (by have := (heA st hst).2; omega)).mp (ex0.symm.trans (heA st hst).1)
  have hA3 : ∀ j, j < n → eA j < 3000 := fun j hj => by have := (heA j hj).2; omega
  refine gy_ild (i := ((3000 * s9) + st)) hx hb hK hP 2 rfl (by omega) (by omega) dX9_sink_15 ?_
  refine gx_top (y := nI x0) ex0 ?_
  refine lv_istore (lv' := [(5, .int (nI x0)), (4, .int (nI st)), (0, .ref h0), (1, .int (nI s9)), (2, .int (nI st)), (3, .int (nI n))]) hx hb dX9_sink_16 hl (by decide) rfl (fun ls hl => ?_)
  refine lv_iconst (v := 2) hx hb dX9_sink_18 (by decide) ?_
  refine lv_iload hx hb dX9_sink_19 (lv_at hl 1 rfl) ?_
  refine lv_imul hx hb dX9_sink_21 ?_
  refine gx_top (y := nI (2 * st)) (pk_mul 2 st) ?_
  refine lv_iconst (v := 1) hx hb dX9_sink_22 (by decide) ?_
  refine lv_iadd hx hb dX9_sink_23 ?_
  refine gx_top (y := nI ((2 * st) + 1)) (nI_add (2 * st) 1) ?_
  refine lv_iload_n hx hb dX9_sink_24 rfl (lv_at hl 5 rfl) ?_
  refine gy_ge (a := ((2 * st) + 1)) (b := n) (tgt := 32) hx hb (by omega) (by omega) dX9_sink_25 (by decide) (fun c_1 => ?_) (fun c_1 => ?_)
  · refine lv_iconst (v := 0) hx hb dX9_sink_32 (by decide) ?_
    refine lv_istore (lv' := [(6, .int 0), (5, .int (nI x0)), (4, .int (nI st)), (0, .ref h0), (1, .int (nI s9)), (2, .int (nI st)), (3, .int (nI n))]) hx hb dX9_sink_33 hl (by decide) rfl (fun ls hl => ?_)
    refine gy_loop0 (I := fun (x9 : Nat × Nat × (Nat → Int32) × (Nat → Nat)) H locs ls => (x9.1 < n) ∧ (x9.2.1 = 0 ∨ 2 * x9.1 + 1 < n) ∧ (gEz x9.2.2.1 (3000 * s9) n sz) ∧ (gFm x9.2.2.1 en (3000 * s9) n) ∧ (x9.2.1 ≤ 1) ∧ (gSi (gTo sf s9) eA x9.2.2.2 x9.2.2.1 (3000 * s9) n st x9.1 x9.2.1 x0) ∧ va_P D vwCl [(h0, .inr (9, [v0, v1, v2, v3, v4, v5, v6, v7, v8, v9, v10, v11, .ref a12, v13, v14, v15, v16, v17, v18, v19, .ref a20, v21, v22, v23, v24, v25, v26, v27, v28, v29, v30, v31, v32, v33, v34, v35, v36, v37, v38, v39, v40, v41, v42, v43, v44, v45, v46, v47, v48, v49, v50, v51])), (a12, .inl (cI, 522000, .inl sf)), (a20, .inl (cI, 9000, .inl x9.2.2.1))] H ∧ va_D A [(h0, .inr (9, [v0, v1, v2, v3, v4, v5, v6, v7, v8, v9, v10, v11, .ref a12, v13, v14, v15, v16, v17, v18, v19, .ref a20, v21, v22, v23, v24, v25, v26, v27, v28, v29, v30, v31, v32, v33, v34, v35, v36, v37, v38, v39, v40, v41, v42, v43, v44, v45, v46, v47, v48, v49, v50, v51])), (a12, .inl (cI, 522000, .inl sf)), (a20, .inl (cI, 9000, .inl x9.2.2.1))] ∧ va_S A s.heap H locs ∧ lv_has ls 8 [(6, .int (nI x9.2.1)), (5, .int (nI x0)), (4, .int (nI x9.1)), (0, .ref h0), (1, .int (nI s9)), (2, .int (nI st)), (3, .int (nI n))]) (μ := fun (x9 : Nat × Nat × (Nat → Int32) × (Nat → Nat)) => 2 * (n - x9.1) + x9.2.1) (fun x9 H locs ls hI ih35 => ?_) (st, 0, en, eA) ⟨(by show st < n; omega), (by show 0 = 0 ∨ 2 * st + 1 < n; omega), hE, gFm_0, (by show 0 ≤ 1; exact Nat.le_of_ble_eq_true rfl), (gSi_0 (fun i hi => (heA i hi).1) hdA hHe hx0A (fun h9 => by first | omega | exact absurd (show (1 : Nat) = 0 from h9) (by decide))), hP, hD, hS, lv_sub hl [0, 1, 2, 3, 4, 5, 6] rfl⟩
    obtain ⟨k, zz, g, eB⟩ := x9
    obtain ⟨hi35_0, hi35_1, hi35_2, hi35_3, hi35_4, hi35_5, hP, hD, hS, hl⟩ := hI
    have hi35_0 : k < n := hi35_0
    have hi35_1 : zz = 0 ∨ 2 * k + 1 < n := hi35_1
    have hi35_2 : gEz g (3000 * s9) n sz := hi35_2
    have hi35_3 : gFm g en (3000 * s9) n := hi35_3
    have hi35_4 : zz ≤ 1 := hi35_4
    have hi35_5 : gSi (gTo sf s9) eA eB g (3000 * s9) n st k zz x0 := hi35_5
    have hP : va_P D vwCl [(h0, .inr (9, [v0, v1, v2, v3, v4, v5, v6, v7, v8, v9, v10, v11, .ref a12, v13, v14, v15, v16, v17, v18, v19, .ref a20, v21, v22, v23, v24, v25, v26, v27, v28, v29, v30, v31, v32, v33, v34, v35, v36, v37, v38, v39, v40, v41, v42, v43, v44, v45, v46, v47, v48, v49, v50, v51])), (a12, .inl (cI, 522000, .inl sf)), (a20, .inl (cI, 9000, .inl g))] H := hP
    have hD : va_D A [(h0, .inr (9, [v0, v1, v2, v3, v4, v5, v6, v7, v8, v9, v10, v11, .ref a12, v13, v14, v15, v16, v17, v18, v19, .ref a20, v21, v22, v23, v24, v25, v26, v27, v28, v29, v30, v31, v32, v33, v34, v35, v36, v37, v38, v39, v40, v41, v42, v43, v44, v45, v46, v47, v48, v49, v50, v51])), (a12, .inl (cI, 522000, .inl sf)), (a20, .inl (cI, 9000, .inl g))] := hD
    have hS : va_S A s.heap H locs := hS
    have hl : lv_has ls 8 [(6, .int (nI zz)), (5, .int (nI x0)), (4, .int (nI k)), (0, .ref h0), (1, .int (nI s9)), (2, .int (nI st)), (3, .int (nI n))] := hl
    refine lv_iload hx hb dX9_sink_35 (lv_at hl 0 rfl) ?_
    refine lv_if_eq (tgt := 182) hx hb dX9_sink_37 (by decide) (fun c_2i => ?_) (fun c_2i => ?_)
    · have c_2 : zz = 0 := (nI_eq (a := zz) (b := 0) (by omega) (by decide)).mp c_2i
      refine lv_aload_n hx hb dX9_sink_182 rfl (lv_at hl 3 rfl) ?_
      refine va_get (D := D) (ci := 9) (v := .ref a20) (C := RX9) (T := TX9) (N := 52) hx hb hts (fun _ h => List.mem_cons_of_mem _ (List.mem_append_left _ (List.mem_append_right _ h))) hown hK hP 0 rfl rfl 20 (by decide) (hts (.fieldLink RX9 69 "LitmusHallModel" "ends" "[I") (by decide +kernel)) (fun _ h9 => h9) rfl dX9_sink_183 ?_
      refine lv_sipush (v := 3000) hx hb dX9_sink_186 (by decide) ?_
      refine lv_iload_n hx hb dX9_sink_189 rfl (lv_at hl 4 rfl) ?_
      refine lv_imul hx hb dX9_sink_190 ?_
      refine gx_top (y := nI (3000 * s9)) (pk_mul 3000 s9) ?_
      refine lv_iload hx hb dX9_sink_191 (lv_at hl 2 rfl) ?_
      refine lv_iadd hx hb dX9_sink_193 ?_
      refine gx_top (y := nI ((3000 * s9) + k)) (nI_add (3000 * s9) k) ?_
      refine lv_iload hx hb dX9_sink_194 (lv_at hl 1 rfl) ?_
      refine gy_ist (i := ((3000 * s9) + k)) hx hb hK hP hD hS 2 rfl (by omega) (by omega) dX9_sink_196 (fun H locs hP hD hS => ?_)
      have hP : va_P D vwCl [(h0, .inr (9, [v0, v1, v2, v3, v4, v5, v6, v7, v8, v9, v10, v11, .ref a12, v13, v14, v15, v16, v17, v18, v19, .ref a20, v21, v22, v23, v24, v25, v26, v27, v28, v29, v30, v31, v32, v33, v34, v35, v36, v37, v38, v39, v40, v41, v42, v43, v44, v45, v46, v47, v48, v49, v50, v51])), (a12, .inl (cI, 522000, .inl sf)), (a20, .inl (cI, 9000, .inl (upd g ((3000 * s9) + k) (nI x0))))] H := hP
      have hD : va_D A [(h0, .inr (9, [v0, v1, v2, v3, v4, v5, v6, v7, v8, v9, v10, v11, .ref a12, v13, v14, v15, v16, v17, v18, v19, .ref a20, v21, v22, v23, v24, v25, v26, v27, v28, v29, v30, v31, v32, v33, v34, v35, v36, v37, v38, v39, v40, v41, v42, v43, v44, v45, v46, v47, v48, v49, v50, v51])), (a12, .inl (cI, 522000, .inl sf)), (a20, .inl (cI, 9000, .inl (upd g ((3000 * s9) + k) (nI x0))))] := hD
      exact gx_vret (w' := [(h0, .inr (9, [v0, v1, v2, v3, v4, v5, v6, v7, v8, v9, v10, v11, .ref a12, v13, v14, v15, v16, v17, v18, v19, .ref a20, v21, v22, v23, v24, v25, v26, v27, v28, v29, v30, v31, v32, v33, v34, v35, v36, v37, v38, v39, v40, v41, v42, v43, v44, v45, v46, v47, v48, v49, v50, v51])), (a12, .inl (cI, 522000, .inl sf)), (a20, .inl (cI, 9000, .inl (upd g ((3000 * s9) + k) (nI x0))))]) hx hb hr hlk hK hP hD hS (Nat.le_of_ble_eq_true rfl) (Nat.le_of_ble_eq_true rfl) dX9_sink_197 ⟨(upd g ((3000 * s9) + k) (nI x0)), (gEz_u hi35_2 rfl hx0), (gFm_u hi35_3 (by omega) (by omega)), (by have h9 := hi35_5; rw [c_2] at h9; exact gSi_e h9 rfl), rfl⟩
    · have c_2 : zz ≠ 0 := fun q9 => c_2i ((nI_eq (a := zz) (b := 0) (by omega) (by decide)).mpr q9)
      refine lv_iconst (v := 2) hx hb dX9_sink_40 (by decide) ?_
      refine lv_iload hx hb dX9_sink_41 (lv_at hl 2 rfl) ?_
      refine lv_imul hx hb dX9_sink_43 ?_
      refine gx_top (y := nI (2 * k)) (pk_mul 2 k) ?_
      refine lv_iconst (v := 1) hx hb dX9_sink_44 (by decide) ?_
      refine lv_iadd hx hb dX9_sink_45 ?_
      refine gx_top (y := nI ((2 * k) + 1)) (nI_add (2 * k) 1) ?_
      refine lv_istore (lv' := [(7, .int (nI ((2 * k) + 1))), (6, .int (nI zz)), (5, .int (nI x0)), (4, .int (nI k)), (0, .ref h0), (1, .int (nI s9)), (2, .int (nI st)), (3, .int (nI n))]) hx hb dX9_sink_46 hl (by decide) rfl (fun ls hl => ?_)
      refine lv_iload hx hb dX9_sink_48 (lv_at hl 0 rfl) ?_
      refine lv_iconst (v := 1) hx hb dX9_sink_50 (by decide) ?_
      refine lv_iadd hx hb dX9_sink_51 ?_
      refine gx_top (y := nI (((2 * k) + 1) + 1)) (nI_add ((2 * k) + 1) 1) ?_
      refine lv_iload_n hx hb dX9_sink_52 rfl (lv_at hl 7 rfl) ?_
      refine gy_ge (a := (((2 * k) + 1) + 1)) (b := n) (tgt := 96) hx hb (by omega) (by omega) dX9_sink_53 (by decide) (fun c_3 => ?_) (fun c_3 => ?_)
      · have hmx : ∀ d, (d = 2 * k + 1 ∨ d = 2 * k + 2) → d < n → gLq (gTo sf s9) (eB d) (eB ((2 * k) + 1)) := by first | exact gMx_a (by omega) (by omega) | exact gMx_b (by omega) (by have h9 := gCq_le hx87_0 c_3; rw [hB1, hB2] at h9; exact h9) | exact gMx_c (by omega) (by have h9 := gCq_gt hx87_0 c_3; rw [hB1, hB2] at h9; exact h9)
        refine lv_aload_n hx hb dX9_sink_96 rfl (lv_at hl 4 rfl) ?_
        refine lv_iload_n hx hb dX9_sink_97 rfl (lv_at hl 5 rfl) ?_
        refine lv_aload_n hx hb dX9_sink_98 rfl (lv_at hl 4 rfl) ?_
        refine va_get (D := D) (ci := 9) (v := .ref a20) (C := RX9) (T := TX9) (N := 52) hx hb hts (fun _ h => List.mem_cons_of_mem _ (List.mem_append_left _ (List.mem_append_right _ h))) hown hK hP 0 rfl rfl 20 (by decide) (hts (.fieldLink RX9 69 "LitmusHallModel" "ends" "[I") (by decide +kernel)) (fun _ h9 => h9) rfl dX9_sink_99 ?_
        refine lv_sipush (v := 3000) hx hb dX9_sink_102 (by decide) ?_
        refine lv_iload_n hx hb dX9_sink_105 rfl (lv_at hl 5 rfl) ?_
        refine lv_imul hx hb dX9_sink_106 ?_
        refine gx_top (y := nI (3000 * s9)) (pk_mul 3000 s9) ?_
        refine lv_iload hx hb dX9_sink_107 (lv_at hl 0 rfl) ?_
        refine lv_iadd hx hb dX9_sink_109 ?_
        refine gx_top (y := nI ((3000 * s9) + ((2 * k) + 1))) (nI_add (3000 * s9) ((2 * k) + 1)) ?_
        obtain ⟨x3, hx3, ex3⟩ := hi35_2 ((2 * k) + 1) (by omega)
        have hB3 := gSi_x hi35_5 (i := ((2 * k) + 1)) (by omega) (by omega) ex3 (by omega) hA3
        refine gy_ild (i := ((3000 * s9) + ((2 * k) + 1))) hx hb hK hP 2 rfl (by omega) (by omega) dX9_sink_110 ?_
        refine gx_top (y := nI x3) (gy_at ex3 (by omega)) ?_
        refine lv_iload_n hx hb dX9_sink_111 rfl (lv_at hl 5 rfl) ?_
        refine lv_iload hx hb dX9_sink_112 (lv_at hl 2 rfl) ?_
        refine gx_goi (wc := [(h0, .inr (9, [v0, v1, v2, v3, v4, v5, v6, v7, v8, v9, v10, v11, .ref a12, v13, v14, v15, v16, v17, v18, v19, .ref a20, v21, v22, v23, v24, v25, v26, v27, v28, v29, v30, v31, v32, v33, v34, v35, v36, v37, v38, v39, v40, v41, v42, v43, v44, v45, v46, v47, v48, v49, v50, v51])), (a12, .inl (cI, 522000, .inl sf))]) (wr := [(a20, .inl (cI, 9000, .inl g))]) (va_runV (As := [.int (nI s9), .int (nI x3), .int (nI s9), .int (nI x0)]) (rest := []) ⟨hx, hb, hml, hown, hts⟩ (x_compare9 l D cI cB cZ h0 a12 (v0) (v1) (v2) (v3) (v4) (v5) (v6) (v7) (v8) (v9) (v10) (v11) (v13) (v14) (v15) (v16) (v17) (v18) (v19) (.ref a20) (v21) (v22) (v23) (v24) (v25) (v26) (v27) (v28) (v29) (v30) (v31) (v32) (v33) (v34) (v35) (v36) (v37) (v38) (v39) (v40) (v41) (v42) (v43) (v44) (v45) (v46) (v47) (v48) (v49) (v50) (v51) sf s9 x3 s9 x0 (by omega) (by omega) (by omega) (by omega) _) (cwV 4 hts gP_x_sink9__x_compare9 rfl rfl rfl (by decide +kernel) ⟨Nat.le_of_ble_eq_true rfl, Nat.le_of_ble_eq_true rfl⟩) (gx_preV (ci := 9) (q0 := 0) hK gN.nil hP hD [0, 1] rfl rfl rfl rfl) rfl rfl hl.1 rfl (lv_room (Nat.le_of_ble_eq_true rfl)) dX9_sink_114 ⟨Nat.le_of_ble_eq_true rfl, Nat.le_of_ble_eq_true rfl⟩) hP hD hS hA [0, 1] [2] rfl rfl rfl (by decide) (fun r1 w1 H locs hp hP hD hS => ?_)
        obtain ⟨e_4, hx114_0, h9, rfl⟩ := hp
        have h9 := h9.symm
        subst h9
        have hx114_0 : gCq e_4 (gTo sf s9 x3) (gTo sf s9 x0) := hx114_0
        refine lv_if_le (tgt := 124) hx hb dX9_sink_117 (by decide) (fun c_5 => ?_) (fun c_5 => ?_)
        · have hcl : gLq (gTo sf s9) (eB ((2 * k) + 1)) (eB k) := by rw [hi35_5.2.1, ← hB3]; exact gCq_le hx114_0 c_5
          refine lv_iconst (v := 0) hx hb dX9_sink_124 (by decide) ?_
          refine lv_istore (lv' := [(6, .int 0), (7, .int (nI ((2 * k) + 1))), (5, .int (nI x0)), (4, .int (nI k)), (0, .ref h0), (1, .int (nI s9)), (2, .int (nI st)), (3, .int (nI n))]) hx hb dX9_sink_125 hl (by decide) rfl (fun ls hl => ?_)
          refine lv_iload hx hb dX9_sink_127 (lv_at hl 0 rfl) ?_
          refine lv_if_eq (tgt := 179) hx hb dX9_sink_129 (by decide) (fun _ => ?_) (fun c9 => absurd (by decide) c9)
          refine lv_goto (tgt := 35) hx hb dX9_sink_179 (by decide) ?_
          have hP : va_P D vwCl [(a20, .inl (cI, 9000, .inl g)), (h0, .inr (9, [v0, v1, v2, v3, v4, v5, v6, v7, v8, v9, v10, v11, .ref a12, v13, v14, v15, v16, v17, v18, v19, .ref a20, v21, v22, v23, v24, v25, v26, v27, v28, v29, v30, v31, v32, v33, v34, v35, v36, v37, v38, v39, v40, v41, v42, v43, v44, v45, v46, v47, v48, v49, v50, v51])), (a12, .inl (cI, 522000, .inl sf))] H := hP
          have hD : va_D A [(a20, .inl (cI, 9000, .inl g)), (h0, .inr (9, [v0, v1, v2, v3, v4, v5, v6, v7, v8, v9, v10, v11, .ref a12, v13, v14, v15, v16, v17, v18, v19, .ref a20, v21, v22, v23, v24, v25, v26, v27, v28, v29, v30, v31, v32, v33, v34, v35, v36, v37, v38, v39, v40, v41, v42, v43, v44, v45, v46, v47, v48, v49, v50, v51])), (a12, .inl (cI, 522000, .inl sf))] := hD
          have hP := hP.sub (ws' := [(h0, .inr (9, [v0, v1, v2, v3, v4, v5, v6, v7, v8, v9, v10, v11, .ref a12, v13, v14, v15, v16, v17, v18, v19, .ref a20, v21, v22, v23, v24, v25, v26, v27, v28, v29, v30, v31, v32, v33, v34, v35, v36, v37, v38, v39, v40, v41, v42, v43, v44, v45, v46, v47, v48, v49, v50, v51])), (a12, .inl (cI, 522000, .inl sf)), (a20, .inl (cI, 9000, .inl g))]) [1, 2, 0] rfl
          have hD := hD.sub (ws' := [(h0, .inr (9, [v0, v1, v2, v3, v4, v5, v6, v7, v8, v9, v10, v11, .ref a12, v13, v14, v15, v16, v17, v18, v19, .ref a20, v21, v22, v23, v24, v25, v26, v27, v28, v29, v30, v31, v32, v33, v34, v35, v36, v37, v38, v39, v40, v41, v42, v43, v44, v45, v46, v47, v48, v49, v50, v51])), (a12, .inl (cI, 522000, .inl sf)), (a20, .inl (cI, 9000, .inl g))]) [1, 2, 0] (by decide) rfl
          exact ih35 (k, 0, g, eB) H locs ls ⟨(by show k < n; omega), (by show 0 = 0 ∨ 2 * k + 1 < n; omega), (by first | exact hi35_2 | exact gEz_u hi35_2 rfl hx3), (by first | exact hi35_3 | exact gFm_u hi35_3 (by omega) (by omega)), (by show 0 ≤ 1; exact Nat.le_of_ble_eq_true rfl), (by show gSi (gTo sf s9) eA eB g (3000 * s9) n st k 0 x0; first | exact gSi_k hi35_5 hmx hcl | exact gSi_m hi35_5 (by omega) (by omega) (by omega) hmx hcg (by omega) rfl hB3), hP, hD, hS, lv_sub hl [0, 2, 3, 4, 5, 6, 7] rfl⟩ (by show 2 * (n - k) + 0 < 2 * (n - k) + zz; omega)
        · have hcg : gLq (gTo sf s9) (eB k) (eB ((2 * k) + 1)) := by rw [hi35_5.2.1, ← hB3]; exact gCq_gt hx114_0 c_5
          refine lv_iconst (v := 1) hx hb dX9_sink_120 (by decide) ?_
          refine lv_goto (tgt := 125) hx hb dX9_sink_121 (by decide) ?_
          refine lv_istore (lv' := [(6, .int 1), (7, .int (nI ((2 * k) + 1))), (5, .int (nI x0)), (4, .int (nI k)), (0, .ref h0), (1, .int (nI s9)), (2, .int (nI st)), (3, .int (nI n))]) hx hb dX9_sink_125 hl (by decide) rfl (fun ls hl => ?_)
          refine lv_iload hx hb dX9_sink_127 (lv_at hl 0 rfl) ?_
          refine lv_if_eq (tgt := 179) hx hb dX9_sink_129 (by decide) (fun c9 => absurd c9 (by decide)) (fun _ => ?_)
          refine lv_aload_n hx hb dX9_sink_132 rfl (lv_at hl 4 rfl) ?_
          refine va_get (D := D) (ci := 9) (v := .ref a20) (C := RX9) (T := TX9) (N := 52) hx hb hts (fun _ h => List.mem_cons_of_mem _ (List.mem_append_left _ (List.mem_append_right _ h))) hown hK hP 1 rfl rfl 20 (by decide) (hts (.fieldLink RX9 69 "LitmusHallModel" "ends" "[I") (by decide +kernel)) (fun _ h9 => h9) rfl dX9_sink_133 ?_
          refine lv_sipush (v := 3000) hx hb dX9_sink_136 (by decide) ?_
          refine lv_iload_n hx hb dX9_sink_139 rfl (lv_at hl 5 rfl) ?_
          refine lv_imul hx hb dX9_sink_140 ?_
          refine gx_top (y := nI (3000 * s9)) (pk_mul 3000 s9) ?_
          refine lv_iload hx hb dX9_sink_141 (lv_at hl 3 rfl) ?_
          refine lv_iadd hx hb dX9_sink_143 ?_
          refine gx_top (y := nI ((3000 * s9) + k)) (nI_add (3000 * s9) k) ?_
          refine lv_aload_n hx hb dX9_sink_144 rfl (lv_at hl 4 rfl) ?_
          refine va_get (D := D) (ci := 9) (v := .ref a20) (C := RX9) (T := TX9) (N := 52) hx hb hts (fun _ h => List.mem_cons_of_mem _ (List.mem_append_left _ (List.mem_append_right _ h))) hown hK hP 1 rfl rfl 20 (by decide) (hts (.fieldLink RX9 69 "LitmusHallModel" "ends" "[I") (by decide +kernel)) (fun _ h9 => h9) rfl dX9_sink_145 ?_
          refine lv_sipush (v := 3000) hx hb dX9_sink_148 (by decide) ?_
          refine lv_iload_n hx hb dX9_sink_151 rfl (lv_at hl 5 rfl) ?_
          refine lv_imul hx hb dX9_sink_152 ?_
          refine gx_top (y := nI (3000 * s9)) (pk_mul 3000 s9) ?_
          refine lv_iload hx hb dX9_sink_153 (lv_at hl 1 rfl) ?_
          refine lv_iadd hx hb dX9_sink_155 ?_
          refine gx_top (y := nI ((3000 * s9) + ((2 * k) + 1))) (nI_add (3000 * s9) ((2 * k) + 1)) ?_
          refine gy_ild (i := ((3000 * s9) + ((2 * k) + 1))) hx hb hK hP 0 rfl (by omega) (by omega) dX9_sink_156 ?_
          refine gx_top (y := nI x3) (gy_at ex3 (by omega)) ?_
          refine gy_ist (i := ((3000 * s9) + k)) hx hb hK hP hD hS 0 rfl (by omega) (by omega) dX9_sink_157 (fun H locs hP hD hS => ?_)
          have hP : va_P D vwCl [(a20, .inl (cI, 9000, .inl (upd g ((3000 * s9) + k) (nI x3)))), (h0, .inr (9, [v0, v1, v2, v3, v4, v5, v6, v7, v8, v9, v10, v11, .ref a12, v13, v14, v15, v16, v17, v18, v19, .ref a20, v21, v22, v23, v24, v25, v26, v27, v28, v29, v30, v31, v32, v33, v34, v35, v36, v37, v38, v39, v40, v41, v42, v43, v44, v45, v46, v47, v48, v49, v50, v51])), (a12, .inl (cI, 522000, .inl sf))] H := hP
          have hD : va_D A [(a20, .inl (cI, 9000, .inl (upd g ((3000 * s9) + k) (nI x3)))), (h0, .inr (9, [v0, v1, v2, v3, v4, v5, v6, v7, v8, v9, v10, v11, .ref a12, v13, v14, v15, v16, v17, v18, v19, .ref a20, v21, v22, v23, v24, v25, v26, v27, v28, v29, v30, v31, v32, v33, v34, v35, v36, v37, v38, v39, v40, v41, v42, v43, v44, v45, v46, v47, v48, v49, v50, v51])), (a12, .inl (cI, 522000, .inl sf))] := hD
          refine lv_iload hx hb dX9_sink_158 (lv_at hl 1 rfl) ?_
          refine lv_istore (lv' := [(4, .int (nI ((2 * k) + 1))), (6, .int 1), (7, .int (nI ((2 * k) + 1))), (5, .int (nI x0)), (0, .ref h0), (1, .int (nI s9)), (2, .int (nI st)), (3, .int (nI n))]) hx hb dX9_sink_160 hl (by decide) rfl (fun ls hl => ?_)
          refine lv_iconst (v := 2) hx hb dX9_sink_162 (by decide) ?_
          refine lv_iload hx hb dX9_sink_163 (lv_at hl 0 rfl) ?_
          refine lv_imul hx hb dX9_sink_165 ?_
          refine gx_top (y := nI (2 * ((2 * k) + 1))) (pk_mul 2 ((2 * k) + 1)) ?_
          refine lv_iconst (v := 1) hx hb dX9_sink_166 (by decide) ?_
          refine lv_iadd hx hb dX9_sink_167 ?_
          refine gx_top (y := nI ((2 * ((2 * k) + 1)) + 1)) (nI_add (2 * ((2 * k) + 1)) 1) ?_
          refine lv_iload_n hx hb dX9_sink_168 rfl (lv_at hl 7 rfl) ?_
          refine gy_ge (a := ((2 * ((2 * k) + 1)) + 1)) (b := n) (tgt := 176) hx hb (by omega) (by omega) dX9_sink_169 (by decide) (fun c_6 => ?_) (fun c_6 => ?_)
          · refine lv_iconst (v := 0) hx hb dX9_sink_176 (by decide) ?_
            refine lv_istore (lv' := [(6, .int 0), (4, .int (nI ((2 * k) + 1))), (7, .int (nI ((2 * k) + 1))), (5, .int (nI x0)), (0, .ref h0), (1, .int (nI s9)), (2, .int (nI st)), (3, .int (nI n))]) hx hb dX9_sink_177 hl (by decide) rfl (fun ls hl => ?_)
            refine lv_goto (tgt := 35) hx hb dX9_sink_179 (by decide) ?_
            have hP := hP.sub (ws' := [(h0, .inr (9, [v0, v1, v2, v3, v4, v5, v6, v7, v8, v9, v10, v11, .ref a12, v13, v14, v15, v16, v17, v18, v19, .ref a20, v21, v22, v23, v24, v25, v26, v27, v28, v29, v30, v31, v32, v33, v34, v35, v36, v37, v38, v39, v40, v41, v42, v43, v44, v45, v46, v47, v48, v49, v50, v51])), (a12, .inl (cI, 522000, .inl sf)), (a20, .inl (cI, 9000, .inl (upd g ((3000 * s9) + k) (nI x3))))]) [1, 2, 0] rfl
            have hD := hD.sub (ws' := [(h0, .inr (9, [v0, v1, v2, v3, v4, v5, v6, v7, v8, v9, v10, v11, .ref a12, v13, v14, v15, v16, v17, v18, v19, .ref a20, v21, v22, v23, v24, v25, v26, v27, v28, v29, v30, v31, v32, v33, v34, v35, v36, v37, v38, v39, v40, v41, v42, v43, v44, v45, v46, v47, v48, v49, v50, v51])), (a12, .inl (cI, 522000, .inl sf)), (a20, .inl (cI, 9000, .inl (upd g ((3000 * s9) + k) (nI x3))))]) [1, 2, 0] (by decide) rfl
            exact ih35 (((2 * k) + 1), 0, (upd g ((3000 * s9) + k) (nI x3)), (updN (updN eB k (eB ((2 * k) + 1))) ((2 * k) + 1) (eB k))) H locs ls ⟨(by show ((2 * k) + 1) < n; omega), (by show 0 = 0 ∨ 2 * ((2 * k) + 1) + 1 < n; omega), (by first | exact hi35_2 | exact gEz_u hi35_2 rfl hx3), (by first | exact hi35_3 | exact gFm_u hi35_3 (by omega) (by omega)), (by show 0 ≤ 1; exact Nat.le_of_ble_eq_true rfl), (by show gSi (gTo sf s9) eA (updN (updN eB k (eB ((2 * k) + 1))) ((2 * k) + 1) (eB k)) (upd g ((3000 * s9) + k) (nI x3)) (3000 * s9) n st ((2 * k) + 1) 0 x0; first | exact gSi_k hi35_5 hmx hcl | exact gSi_m hi35_5 (by omega) (by omega) (by omega) hmx hcg (by omega) rfl hB3), hP, hD, hS, lv_sub hl [0, 3, 1, 4, 5, 6, 7] rfl⟩ (by show 2 * (n - ((2 * k) + 1)) + 0 < 2 * (n - k) + zz; omega)
          · refine lv_iconst (v := 1) hx hb dX9_sink_172 (by decide) ?_
            refine lv_goto (tgt := 177) hx hb dX9_sink_173 (by decide) ?_
            refine lv_istore (lv' := [(6, .int 1), (4, .int (nI ((2 * k) + 1))), (7, .int (nI ((2 * k) + 1))), (5, .int (nI x0)), (0, .ref h0), (1, .int (nI s9)), (2, .int (nI st)), (3, .int (nI n))]) hx hb dX9_sink_177 hl (by decide) rfl (fun ls hl => ?_)
            refine lv_goto (tgt := 35) hx hb dX9_sink_179 (by decide) ?_
            have hP := hP.sub (ws' := [(h0, .inr (9, [v0, v1, v2, v3, v4, v5, v6, v7, v8, v9, v10, v11, .ref a12, v13, v14, v15, v16, v17, v18, v19, .ref a20, v21, v22, v23, v24, v25, v26, v27, v28, v29, v30, v31, v32, v33, v34, v35, v36, v37, v38, v39, v40, v41, v42, v43, v44, v45, v46, v47, v48, v49, v50, v51])), (a12, .inl (cI, 522000, .inl sf)), (a20, .inl (cI, 9000, .inl (upd g ((3000 * s9) + k) (nI x3))))]) [1, 2, 0] rfl
            have hD := hD.sub (ws' := [(h0, .inr (9, [v0, v1, v2, v3, v4, v5, v6, v7, v8, v9, v10, v11, .ref a12, v13, v14, v15, v16, v17, v18, v19, .ref a20, v21, v22, v23, v24, v25, v26, v27, v28, v29, v30, v31, v32, v33, v34, v35, v36, v37, v38, v39, v40, v41, v42, v43, v44, v45, v46, v47, v48, v49, v50, v51])), (a12, .inl (cI, 522000, .inl sf)), (a20, .inl (cI, 9000, .inl (upd g ((3000 * s9) + k) (nI x3))))]) [1, 2, 0] (by decide) rfl
            exact ih35 (((2 * k) + 1), 1, (upd g ((3000 * s9) + k) (nI x3)), (updN (updN eB k (eB ((2 * k) + 1))) ((2 * k) + 1) (eB k))) H locs ls ⟨(by show ((2 * k) + 1) < n; omega), (by show 1 = 0 ∨ 2 * ((2 * k) + 1) + 1 < n; omega), (by first | exact hi35_2 | exact gEz_u hi35_2 rfl hx3), (by first | exact hi35_3 | exact gFm_u hi35_3 (by omega) (by omega)), (by show 1 ≤ 1; exact Nat.le_of_ble_eq_true rfl), (by show gSi (gTo sf s9) eA (updN (updN eB k (eB ((2 * k) + 1))) ((2 * k) + 1) (eB k)) (upd g ((3000 * s9) + k) (nI x3)) (3000 * s9) n st ((2 * k) + 1) 1 x0; first | exact gSi_k hi35_5 hmx hcl | exact gSi_m hi35_5 (by omega) (by omega) (by omega) hmx hcg (by omega) rfl hB3), hP, hD, hS, lv_sub hl [0, 3, 1, 4, 5, 6, 7] rfl⟩ (by show 2 * (n - ((2 * k) + 1)) + 1 < 2 * (n - k) + zz; omega)
      · refine lv_aload_n hx hb dX9_sink_56 rfl (lv_at hl 4 rfl) ?_
        refine lv_iload_n hx hb dX9_sink_57 rfl (lv_at hl 5 rfl) ?_
        refine lv_aload_n hx hb dX9_sink_58 rfl (lv_at hl 4 rfl) ?_
        refine va_get (D := D) (ci := 9) (v := .ref a20) (C := RX9) (T := TX9) (N := 52) hx hb hts (fun _ h => List.mem_cons_of_mem _ (List.mem_append_left _ (List.mem_append_right _ h))) hown hK hP 0 rfl rfl 20 (by decide) (hts (.fieldLink RX9 69 "LitmusHallModel" "ends" "[I") (by decide +kernel)) (fun _ h9 => h9) rfl dX9_sink_59 ?_
        refine lv_sipush (v := 3000) hx hb dX9_sink_62 (by decide) ?_
        refine lv_iload_n hx hb dX9_sink_65 rfl (lv_at hl 5 rfl) ?_
        refine lv_imul hx hb dX9_sink_66 ?_
        refine gx_top (y := nI (3000 * s9)) (pk_mul 3000 s9) ?_
        refine lv_iload hx hb dX9_sink_67 (lv_at hl 0 rfl) ?_
        refine lv_iadd hx hb dX9_sink_69 ?_
        refine gx_top (y := nI ((3000 * s9) + ((2 * k) + 1))) (nI_add (3000 * s9) ((2 * k) + 1)) ?_
        refine lv_iconst (v := 1) hx hb dX9_sink_70 (by decide) ?_
        refine lv_iadd hx hb dX9_sink_71 ?_
        refine gx_top (y := nI (((3000 * s9) + ((2 * k) + 1)) + 1)) (nI_add ((3000 * s9) + ((2 * k) + 1)) 1) ?_
        obtain ⟨x1, hx1, ex1⟩ := hi35_2 (((2 * k) + 1) + 1) (by omega)
        have hB1 := gSi_x hi35_5 (i := ((2 * k) + 1) + 1) (by omega) (by omega) ex1 (by omega) hA3
        refine gy_ild (i := (((3000 * s9) + ((2 * k) + 1)) + 1)) hx hb hK hP 2 rfl (by omega) (by omega) dX9_sink_72 ?_
        refine gx_top (y := nI x1) (gy_at ex1 (by omega)) ?_
        refine lv_iload_n hx hb dX9_sink_73 rfl (lv_at hl 5 rfl) ?_
        refine lv_aload_n hx hb dX9_sink_74 rfl (lv_at hl 4 rfl) ?_
        refine va_get (D := D) (ci := 9) (v := .ref a20) (C := RX9) (T := TX9) (N := 52) hx hb hts (fun _ h => List.mem_cons_of_mem _ (List.mem_append_left _ (List.mem_append_right _ h))) hown hK hP 0 rfl rfl 20 (by decide) (hts (.fieldLink RX9 69 "LitmusHallModel" "ends" "[I") (by decide +kernel)) (fun _ h9 => h9) rfl dX9_sink_75 ?_
        refine lv_sipush (v := 3000) hx hb dX9_sink_78 (by decide) ?_
        refine lv_iload_n hx hb dX9_sink_81 rfl (lv_at hl 5 rfl) ?_
        refine lv_imul hx hb dX9_sink_82 ?_
        refine gx_top (y := nI (3000 * s9)) (pk_mul 3000 s9) ?_
        refine lv_iload hx hb dX9_sink_83 (lv_at hl 0 rfl) ?_
        refine lv_iadd hx hb dX9_sink_85 ?_
        refine gx_top (y := nI ((3000 * s9) + ((2 * k) + 1))) (nI_add (3000 * s9) ((2 * k) + 1)) ?_
        obtain ⟨x2, hx2, ex2⟩ := hi35_2 ((2 * k) + 1) (by omega)
        have hB2 := gSi_x hi35_5 (i := ((2 * k) + 1)) (by omega) (by omega) ex2 (by omega) hA3
        refine gy_ild (i := ((3000 * s9) + ((2 * k) + 1))) hx hb hK hP 2 rfl (by omega) (by omega) dX9_sink_86 ?_
        refine gx_top (y := nI x2) (gy_at ex2 (by omega)) ?_
        refine gx_goi (wc := [(h0, .inr (9, [v0, v1, v2, v3, v4, v5, v6, v7, v8, v9, v10, v11, .ref a12, v13, v14, v15, v16, v17, v18, v19, .ref a20, v21, v22, v23, v24, v25, v26, v27, v28, v29, v30, v31, v32, v33, v34, v35, v36, v37, v38, v39, v40, v41, v42, v43, v44, v45, v46, v47, v48, v49, v50, v51])), (a12, .inl (cI, 522000, .inl sf))]) (wr := [(a20, .inl (cI, 9000, .inl g))]) (va_runV (As := [.int (nI s9), .int (nI x1), .int (nI s9), .int (nI x2)]) (rest := []) ⟨hx, hb, hml, hown, hts⟩ (x_compare9 l D cI cB cZ h0 a12 (v0) (v1) (v2) (v3) (v4) (v5) (v6) (v7) (v8) (v9) (v10) (v11) (v13) (v14) (v15) (v16) (v17) (v18) (v19) (.ref a20) (v21) (v22) (v23) (v24) (v25) (v26) (v27) (v28) (v29) (v30) (v31) (v32) (v33) (v34) (v35) (v36) (v37) (v38) (v39) (v40) (v41) (v42) (v43) (v44) (v45) (v46) (v47) (v48) (v49) (v50) (v51) sf s9 x1 s9 x2 (by omega) (by omega) (by omega) (by omega) _) (cwV 4 hts gP_x_sink9__x_compare9 rfl rfl rfl (by decide +kernel) ⟨Nat.le_of_ble_eq_true rfl, Nat.le_of_ble_eq_true rfl⟩) (gx_preV (ci := 9) (q0 := 0) hK gN.nil hP hD [0, 1] rfl rfl rfl rfl) rfl rfl hl.1 rfl (lv_room (Nat.le_of_ble_eq_true rfl)) dX9_sink_87 ⟨Nat.le_of_ble_eq_true rfl, Nat.le_of_ble_eq_true rfl⟩) hP hD hS hA [0, 1] [2] rfl rfl rfl (by decide) (fun r1 w1 H locs hp hP hD hS => ?_)
        obtain ⟨e_7, hx87_0, h9, rfl⟩ := hp
        have h9 := h9.symm
        subst h9
        have hx87_0 : gCq e_7 (gTo sf s9 x1) (gTo sf s9 x2) := hx87_0
        refine lv_if_le (tgt := 96) hx hb dX9_sink_90 (by decide) (fun c_8 => ?_) (fun c_8 => ?_)
        · have hmx : ∀ d, (d = 2 * k + 1 ∨ d = 2 * k + 2) → d < n → gLq (gTo sf s9) (eB d) (eB ((2 * k) + 1)) := by first | exact gMx_a (by omega) (by omega) | exact gMx_b (by omega) (by have h9 := gCq_le hx87_0 c_8; rw [hB1, hB2] at h9; exact h9) | exact gMx_c (by omega) (by have h9 := gCq_gt hx87_0 c_8; rw [hB1, hB2] at h9; exact h9)
          refine lv_aload_n hx hb dX9_sink_96 rfl (lv_at hl 4 rfl) ?_
          refine lv_iload_n hx hb dX9_sink_97 rfl (lv_at hl 5 rfl) ?_
          refine lv_aload_n hx hb dX9_sink_98 rfl (lv_at hl 4 rfl) ?_
          refine va_get (D := D) (ci := 9) (v := .ref a20) (C := RX9) (T := TX9) (N := 52) hx hb hts (fun _ h => List.mem_cons_of_mem _ (List.mem_append_left _ (List.mem_append_right _ h))) hown hK hP 1 rfl rfl 20 (by decide) (hts (.fieldLink RX9 69 "LitmusHallModel" "ends" "[I") (by decide +kernel)) (fun _ h9 => h9) rfl dX9_sink_99 ?_
          refine lv_sipush (v := 3000) hx hb dX9_sink_102 (by decide) ?_
          refine lv_iload_n hx hb dX9_sink_105 rfl (lv_at hl 5 rfl) ?_
          refine lv_imul hx hb dX9_sink_106 ?_
          refine gx_top (y := nI (3000 * s9)) (pk_mul 3000 s9) ?_
          refine lv_iload hx hb dX9_sink_107 (lv_at hl 0 rfl) ?_
          refine lv_iadd hx hb dX9_sink_109 ?_
          refine gx_top (y := nI ((3000 * s9) + ((2 * k) + 1))) (nI_add (3000 * s9) ((2 * k) + 1)) ?_
          obtain ⟨x3, hx3, ex3⟩ := hi35_2 ((2 * k) + 1) (by omega)
          have hB3 := gSi_x hi35_5 (i := ((2 * k) + 1)) (by omega) (by omega) ex3 (by omega) hA3
          refine gy_ild (i := ((3000 * s9) + ((2 * k) + 1))) hx hb hK hP 0 rfl (by omega) (by omega) dX9_sink_110 ?_
          refine gx_top (y := nI x3) (gy_at ex3 (by omega)) ?_
          refine lv_iload_n hx hb dX9_sink_111 rfl (lv_at hl 5 rfl) ?_
          refine lv_iload hx hb dX9_sink_112 (lv_at hl 2 rfl) ?_
          refine gx_goi (wc := [(h0, .inr (9, [v0, v1, v2, v3, v4, v5, v6, v7, v8, v9, v10, v11, .ref a12, v13, v14, v15, v16, v17, v18, v19, .ref a20, v21, v22, v23, v24, v25, v26, v27, v28, v29, v30, v31, v32, v33, v34, v35, v36, v37, v38, v39, v40, v41, v42, v43, v44, v45, v46, v47, v48, v49, v50, v51])), (a12, .inl (cI, 522000, .inl sf))]) (wr := [(a20, .inl (cI, 9000, .inl g))]) (va_runV (As := [.int (nI s9), .int (nI x3), .int (nI s9), .int (nI x0)]) (rest := []) ⟨hx, hb, hml, hown, hts⟩ (x_compare9 l D cI cB cZ h0 a12 (v0) (v1) (v2) (v3) (v4) (v5) (v6) (v7) (v8) (v9) (v10) (v11) (v13) (v14) (v15) (v16) (v17) (v18) (v19) (.ref a20) (v21) (v22) (v23) (v24) (v25) (v26) (v27) (v28) (v29) (v30) (v31) (v32) (v33) (v34) (v35) (v36) (v37) (v38) (v39) (v40) (v41) (v42) (v43) (v44) (v45) (v46) (v47) (v48) (v49) (v50) (v51) sf s9 x3 s9 x0 (by omega) (by omega) (by omega) (by omega) _) (cwV 4 hts gP_x_sink9__x_compare9 rfl rfl rfl (by decide +kernel) ⟨Nat.le_of_ble_eq_true rfl, Nat.le_of_ble_eq_true rfl⟩) (gx_preV (ci := 9) (q0 := 0) hK gN.nil hP hD [1, 2] rfl rfl rfl rfl) rfl rfl hl.1 rfl (lv_room (Nat.le_of_ble_eq_true rfl)) dX9_sink_114 ⟨Nat.le_of_ble_eq_true rfl, Nat.le_of_ble_eq_true rfl⟩) hP hD hS hA [1, 2] [0] rfl rfl rfl (by decide) (fun r1 w1 H locs hp hP hD hS => ?_)
          obtain ⟨e_9, hx114_0, h9, rfl⟩ := hp
          have h9 := h9.symm
          subst h9
          have hx114_0 : gCq e_9 (gTo sf s9 x3) (gTo sf s9 x0) := hx114_0
          refine lv_if_le (tgt := 124) hx hb dX9_sink_117 (by decide) (fun c_10 => ?_) (fun c_10 => ?_)
          · have hcl : gLq (gTo sf s9) (eB ((2 * k) + 1)) (eB k) := by rw [hi35_5.2.1, ← hB3]; exact gCq_le hx114_0 c_10
            refine lv_iconst (v := 0) hx hb dX9_sink_124 (by decide) ?_
            refine lv_istore (lv' := [(6, .int 0), (7, .int (nI ((2 * k) + 1))), (5, .int (nI x0)), (4, .int (nI k)), (0, .ref h0), (1, .int (nI s9)), (2, .int (nI st)), (3, .int (nI n))]) hx hb dX9_sink_125 hl (by decide) rfl (fun ls hl => ?_)
            refine lv_iload hx hb dX9_sink_127 (lv_at hl 0 rfl) ?_
            refine lv_if_eq (tgt := 179) hx hb dX9_sink_129 (by decide) (fun _ => ?_) (fun c9 => absurd (by decide) c9)
            refine lv_goto (tgt := 35) hx hb dX9_sink_179 (by decide) ?_
            have hP : va_P D vwCl [(a20, .inl (cI, 9000, .inl g)), (h0, .inr (9, [v0, v1, v2, v3, v4, v5, v6, v7, v8, v9, v10, v11, .ref a12, v13, v14, v15, v16, v17, v18, v19, .ref a20, v21, v22, v23, v24, v25, v26, v27, v28, v29, v30, v31, v32, v33, v34, v35, v36, v37, v38, v39, v40, v41, v42, v43, v44, v45, v46, v47, v48, v49, v50, v51])), (a12, .inl (cI, 522000, .inl sf))] H := hP
            have hD : va_D A [(a20, .inl (cI, 9000, .inl g)), (h0, .inr (9, [v0, v1, v2, v3, v4, v5, v6, v7, v8, v9, v10, v11, .ref a12, v13, v14, v15, v16, v17, v18, v19, .ref a20, v21, v22, v23, v24, v25, v26, v27, v28, v29, v30, v31, v32, v33, v34, v35, v36, v37, v38, v39, v40, v41, v42, v43, v44, v45, v46, v47, v48, v49, v50, v51])), (a12, .inl (cI, 522000, .inl sf))] := hD
            have hP := hP.sub (ws' := [(h0, .inr (9, [v0, v1, v2, v3, v4, v5, v6, v7, v8, v9, v10, v11, .ref a12, v13, v14, v15, v16, v17, v18, v19, .ref a20, v21, v22, v23, v24, v25, v26, v27, v28, v29, v30, v31, v32, v33, v34, v35, v36, v37, v38, v39, v40, v41, v42, v43, v44, v45, v46, v47, v48, v49, v50, v51])), (a12, .inl (cI, 522000, .inl sf)), (a20, .inl (cI, 9000, .inl g))]) [1, 2, 0] rfl
            have hD := hD.sub (ws' := [(h0, .inr (9, [v0, v1, v2, v3, v4, v5, v6, v7, v8, v9, v10, v11, .ref a12, v13, v14, v15, v16, v17, v18, v19, .ref a20, v21, v22, v23, v24, v25, v26, v27, v28, v29, v30, v31, v32, v33, v34, v35, v36, v37, v38, v39, v40, v41, v42, v43, v44, v45, v46, v47, v48, v49, v50, v51])), (a12, .inl (cI, 522000, .inl sf)), (a20, .inl (cI, 9000, .inl g))]) [1, 2, 0] (by decide) rfl
            exact ih35 (k, 0, g, eB) H locs ls ⟨(by show k < n; omega), (by show 0 = 0 ∨ 2 * k + 1 < n; omega), (by first | exact hi35_2 | exact gEz_u hi35_2 rfl hx3), (by first | exact hi35_3 | exact gFm_u hi35_3 (by omega) (by omega)), (by show 0 ≤ 1; exact Nat.le_of_ble_eq_true rfl), (by show gSi (gTo sf s9) eA eB g (3000 * s9) n st k 0 x0; first | exact gSi_k hi35_5 hmx hcl | exact gSi_m hi35_5 (by omega) (by omega) (by omega) hmx hcg (by omega) rfl hB3), hP, hD, hS, lv_sub hl [0, 2, 3, 4, 5, 6, 7] rfl⟩ (by show 2 * (n - k) + 0 < 2 * (n - k) + zz; omega)
          · have hcg : gLq (gTo sf s9) (eB k) (eB ((2 * k) + 1)) := by rw [hi35_5.2.1, ← hB3]; exact gCq_gt hx114_0 c_10
            refine lv_iconst (v := 1) hx hb dX9_sink_120 (by decide) ?_
            refine lv_goto (tgt := 125) hx hb dX9_sink_121 (by decide) ?_
            refine lv_istore (lv' := [(6, .int 1), (7, .int (nI ((2 * k) + 1))), (5, .int (nI x0)), (4, .int (nI k)), (0, .ref h0), (1, .int (nI s9)), (2, .int (nI st)), (3, .int (nI n))]) hx hb dX9_sink_125 hl (by decide) rfl (fun ls hl => ?_)
            refine lv_iload hx hb dX9_sink_127 (lv_at hl 0 rfl) ?_
            refine lv_if_eq (tgt := 179) hx hb dX9_sink_129 (by decide) (fun c9 => absurd c9 (by decide)) (fun _ => ?_)
            refine lv_aload_n hx hb dX9_sink_132 rfl (lv_at hl 4 rfl) ?_
            refine va_get (D := D) (ci := 9) (v := .ref a20) (C := RX9) (T := TX9) (N := 52) hx hb hts (fun _ h => List.mem_cons_of_mem _ (List.mem_append_left _ (List.mem_append_right _ h))) hown hK hP 1 rfl rfl 20 (by decide) (hts (.fieldLink RX9 69 "LitmusHallModel" "ends" "[I") (by decide +kernel)) (fun _ h9 => h9) rfl dX9_sink_133 ?_
            refine lv_sipush (v := 3000) hx hb dX9_sink_136 (by decide) ?_
            refine lv_iload_n hx hb dX9_sink_139 rfl (lv_at hl 5 rfl) ?_
            refine lv_imul hx hb dX9_sink_140 ?_
            refine gx_top (y := nI (3000 * s9)) (pk_mul 3000 s9) ?_
            refine lv_iload hx hb dX9_sink_141 (lv_at hl 3 rfl) ?_
            refine lv_iadd hx hb dX9_sink_143 ?_
            refine gx_top (y := nI ((3000 * s9) + k)) (nI_add (3000 * s9) k) ?_
            refine lv_aload_n hx hb dX9_sink_144 rfl (lv_at hl 4 rfl) ?_
            refine va_get (D := D) (ci := 9) (v := .ref a20) (C := RX9) (T := TX9) (N := 52) hx hb hts (fun _ h => List.mem_cons_of_mem _ (List.mem_append_left _ (List.mem_append_right _ h))) hown hK hP 1 rfl rfl 20 (by decide) (hts (.fieldLink RX9 69 "LitmusHallModel" "ends" "[I") (by decide +kernel)) (fun _ h9 => h9) rfl dX9_sink_145 ?_
            refine lv_sipush (v := 3000) hx hb dX9_sink_148 (by decide) ?_
            refine lv_iload_n hx hb dX9_sink_151 rfl (lv_at hl 5 rfl) ?_
            refine lv_imul hx hb dX9_sink_152 ?_
            refine gx_top (y := nI (3000 * s9)) (pk_mul 3000 s9) ?_
            refine lv_iload hx hb dX9_sink_153 (lv_at hl 1 rfl) ?_
            refine lv_iadd hx hb dX9_sink_155 ?_
            refine gx_top (y := nI ((3000 * s9) + ((2 * k) + 1))) (nI_add (3000 * s9) ((2 * k) + 1)) ?_
            refine gy_ild (i := ((3000 * s9) + ((2 * k) + 1))) hx hb hK hP 0 rfl (by omega) (by omega) dX9_sink_156 ?_
            refine gx_top (y := nI x3) (gy_at ex3 (by omega)) ?_
            refine gy_ist (i := ((3000 * s9) + k)) hx hb hK hP hD hS 0 rfl (by omega) (by omega) dX9_sink_157 (fun H locs hP hD hS => ?_)
            have hP : va_P D vwCl [(a20, .inl (cI, 9000, .inl (upd g ((3000 * s9) + k) (nI x3)))), (h0, .inr (9, [v0, v1, v2, v3, v4, v5, v6, v7, v8, v9, v10, v11, .ref a12, v13, v14, v15, v16, v17, v18, v19, .ref a20, v21, v22, v23, v24, v25, v26, v27, v28, v29, v30, v31, v32, v33, v34, v35, v36, v37, v38, v39, v40, v41, v42, v43, v44, v45, v46, v47, v48, v49, v50, v51])), (a12, .inl (cI, 522000, .inl sf))] H := hP
            have hD : va_D A [(a20, .inl (cI, 9000, .inl (upd g ((3000 * s9) + k) (nI x3)))), (h0, .inr (9, [v0, v1, v2, v3, v4, v5, v6, v7, v8, v9, v10, v11, .ref a12, v13, v14, v15, v16, v17, v18, v19, .ref a20, v21, v22, v23, v24, v25, v26, v27, v28, v29, v30, v31, v32, v33, v34, v35, v36, v37, v38, v39, v40, v41, v42, v43, v44, v45, v46, v47, v48, v49, v50, v51])), (a12, .inl (cI, 522000, .inl sf))] := hD
            refine lv_iload hx hb dX9_sink_158 (lv_at hl 1 rfl) ?_
            refine lv_istore (lv' := [(4, .int (nI ((2 * k) + 1))), (6, .int 1), (7, .int (nI ((2 * k) + 1))), (5, .int (nI x0)), (0, .ref h0), (1, .int (nI s9)), (2, .int (nI st)), (3, .int (nI n))]) hx hb dX9_sink_160 hl (by decide) rfl (fun ls hl => ?_)
            refine lv_iconst (v := 2) hx hb dX9_sink_162 (by decide) ?_
            refine lv_iload hx hb dX9_sink_163 (lv_at hl 0 rfl) ?_
            refine lv_imul hx hb dX9_sink_165 ?_
            refine gx_top (y := nI (2 * ((2 * k) + 1))) (pk_mul 2 ((2 * k) + 1)) ?_
            refine lv_iconst (v := 1) hx hb dX9_sink_166 (by decide) ?_
            refine lv_iadd hx hb dX9_sink_167 ?_
            refine gx_top (y := nI ((2 * ((2 * k) + 1)) + 1)) (nI_add (2 * ((2 * k) + 1)) 1) ?_
            refine lv_iload_n hx hb dX9_sink_168 rfl (lv_at hl 7 rfl) ?_
            refine gy_ge (a := ((2 * ((2 * k) + 1)) + 1)) (b := n) (tgt := 176) hx hb (by omega) (by omega) dX9_sink_169 (by decide) (fun c_11 => ?_) (fun c_11 => ?_)
            · refine lv_iconst (v := 0) hx hb dX9_sink_176 (by decide) ?_
              refine lv_istore (lv' := [(6, .int 0), (4, .int (nI ((2 * k) + 1))), (7, .int (nI ((2 * k) + 1))), (5, .int (nI x0)), (0, .ref h0), (1, .int (nI s9)), (2, .int (nI st)), (3, .int (nI n))]) hx hb dX9_sink_177 hl (by decide) rfl (fun ls hl => ?_)
              refine lv_goto (tgt := 35) hx hb dX9_sink_179 (by decide) ?_
              have hP := hP.sub (ws' := [(h0, .inr (9, [v0, v1, v2, v3, v4, v5, v6, v7, v8, v9, v10, v11, .ref a12, v13, v14, v15, v16, v17, v18, v19, .ref a20, v21, v22, v23, v24, v25, v26, v27, v28, v29, v30, v31, v32, v33, v34, v35, v36, v37, v38, v39, v40, v41, v42, v43, v44, v45, v46, v47, v48, v49, v50, v51])), (a12, .inl (cI, 522000, .inl sf)), (a20, .inl (cI, 9000, .inl (upd g ((3000 * s9) + k) (nI x3))))]) [1, 2, 0] rfl
              have hD := hD.sub (ws' := [(h0, .inr (9, [v0, v1, v2, v3, v4, v5, v6, v7, v8, v9, v10, v11, .ref a12, v13, v14, v15, v16, v17, v18, v19, .ref a20, v21, v22, v23, v24, v25, v26, v27, v28, v29, v30, v31, v32, v33, v34, v35, v36, v37, v38, v39, v40, v41, v42, v43, v44, v45, v46, v47, v48, v49, v50, v51])), (a12, .inl (cI, 522000, .inl sf)), (a20, .inl (cI, 9000, .inl (upd g ((3000 * s9) + k) (nI x3))))]) [1, 2, 0] (by decide) rfl
              exact ih35 (((2 * k) + 1), 0, (upd g ((3000 * s9) + k) (nI x3)), (updN (updN eB k (eB ((2 * k) + 1))) ((2 * k) + 1) (eB k))) H locs ls ⟨(by show ((2 * k) + 1) < n; omega), (by show 0 = 0 ∨ 2 * ((2 * k) + 1) + 1 < n; omega), (by first | exact hi35_2 | exact gEz_u hi35_2 rfl hx3), (by first | exact hi35_3 | exact gFm_u hi35_3 (by omega) (by omega)), (by show 0 ≤ 1; exact Nat.le_of_ble_eq_true rfl), (by show gSi (gTo sf s9) eA (updN (updN eB k (eB ((2 * k) + 1))) ((2 * k) + 1) (eB k)) (upd g ((3000 * s9) + k) (nI x3)) (3000 * s9) n st ((2 * k) + 1) 0 x0; first | exact gSi_k hi35_5 hmx hcl | exact gSi_m hi35_5 (by omega) (by omega) (by omega) hmx hcg (by omega) rfl hB3), hP, hD, hS, lv_sub hl [0, 3, 1, 4, 5, 6, 7] rfl⟩ (by show 2 * (n - ((2 * k) + 1)) + 0 < 2 * (n - k) + zz; omega)
            · refine lv_iconst (v := 1) hx hb dX9_sink_172 (by decide) ?_
              refine lv_goto (tgt := 177) hx hb dX9_sink_173 (by decide) ?_
              refine lv_istore (lv' := [(6, .int 1), (4, .int (nI ((2 * k) + 1))), (7, .int (nI ((2 * k) + 1))), (5, .int (nI x0)), (0, .ref h0), (1, .int (nI s9)), (2, .int (nI st)), (3, .int (nI n))]) hx hb dX9_sink_177 hl (by decide) rfl (fun ls hl => ?_)
              refine lv_goto (tgt := 35) hx hb dX9_sink_179 (by decide) ?_
              have hP := hP.sub (ws' := [(h0, .inr (9, [v0, v1, v2, v3, v4, v5, v6, v7, v8, v9, v10, v11, .ref a12, v13, v14, v15, v16, v17, v18, v19, .ref a20, v21, v22, v23, v24, v25, v26, v27, v28, v29, v30, v31, v32, v33, v34, v35, v36, v37, v38, v39, v40, v41, v42, v43, v44, v45, v46, v47, v48, v49, v50, v51])), (a12, .inl (cI, 522000, .inl sf)), (a20, .inl (cI, 9000, .inl (upd g ((3000 * s9) + k) (nI x3))))]) [1, 2, 0] rfl
              have hD := hD.sub (ws' := [(h0, .inr (9, [v0, v1, v2, v3, v4, v5, v6, v7, v8, v9, v10, v11, .ref a12, v13, v14, v15, v16, v17, v18, v19, .ref a20, v21, v22, v23, v24, v25, v26, v27, v28, v29, v30, v31, v32, v33, v34, v35, v36, v37, v38, v39, v40, v41, v42, v43, v44, v45, v46, v47, v48, v49, v50, v51])), (a12, .inl (cI, 522000, .inl sf)), (a20, .inl (cI, 9000, .inl (upd g ((3000 * s9) + k) (nI x3))))]) [1, 2, 0] (by decide) rfl
              exact ih35 (((2 * k) + 1), 1, (upd g ((3000 * s9) + k) (nI x3)), (updN (updN eB k (eB ((2 * k) + 1))) ((2 * k) + 1) (eB k))) H locs ls ⟨(by show ((2 * k) + 1) < n; omega), (by show 1 = 0 ∨ 2 * ((2 * k) + 1) + 1 < n; omega), (by first | exact hi35_2 | exact gEz_u hi35_2 rfl hx3), (by first | exact hi35_3 | exact gFm_u hi35_3 (by omega) (by omega)), (by show 1 ≤ 1; exact Nat.le_of_ble_eq_true rfl), (by show gSi (gTo sf s9) eA (updN (updN eB k (eB ((2 * k) + 1))) ((2 * k) + 1) (eB k)) (upd g ((3000 * s9) + k) (nI x3)) (3000 * s9) n st ((2 * k) + 1) 1 x0; first | exact gSi_k hi35_5 hmx hcl | exact gSi_m hi35_5 (by omega) (by omega) (by omega) hmx hcg (by omega) rfl hB3), hP, hD, hS, lv_sub hl [0, 3, 1, 4, 5, 6, 7] rfl⟩ (by show 2 * (n - ((2 * k) + 1)) + 1 < 2 * (n - k) + zz; omega)
        · refine lv_iinc (v := nI (((2 * k) + 1) + 1)) (lv' := [(7, .int (nI (((2 * k) + 1) + 1))), (6, .int (nI zz)), (5, .int (nI x0)), (4, .int (nI k)), (0, .ref h0), (1, .int (nI s9)), (2, .int (nI st)), (3, .int (nI n))]) hx hb dX9_sink_93 hl (k := 0) rfl (nI_add ((2 * k) + 1) 1) (by decide) rfl (fun ls hl => ?_)
          have hmx : ∀ d, (d = 2 * k + 1 ∨ d = 2 * k + 2) → d < n → gLq (gTo sf s9) (eB d) (eB (((2 * k) + 1) + 1)) := by first | exact gMx_a (by omega) (by omega) | exact gMx_b (by omega) (by have h9 := gCq_le hx87_0 c_8; rw [hB1, hB2] at h9; exact h9) | exact gMx_c (by omega) (by have h9 := gCq_gt hx87_0 c_8; rw [hB1, hB2] at h9; exact h9)
          refine lv_aload_n hx hb dX9_sink_96 rfl (lv_at hl 4 rfl) ?_
          refine lv_iload_n hx hb dX9_sink_97 rfl (lv_at hl 5 rfl) ?_
          refine lv_aload_n hx hb dX9_sink_98 rfl (lv_at hl 4 rfl) ?_
          refine va_get (D := D) (ci := 9) (v := .ref a20) (C := RX9) (T := TX9) (N := 52) hx hb hts (fun _ h => List.mem_cons_of_mem _ (List.mem_append_left _ (List.mem_append_right _ h))) hown hK hP 1 rfl rfl 20 (by decide) (hts (.fieldLink RX9 69 "LitmusHallModel" "ends" "[I") (by decide +kernel)) (fun _ h9 => h9) rfl dX9_sink_99 ?_
          refine lv_sipush (v := 3000) hx hb dX9_sink_102 (by decide) ?_
          refine lv_iload_n hx hb dX9_sink_105 rfl (lv_at hl 5 rfl) ?_
          refine lv_imul hx hb dX9_sink_106 ?_
          refine gx_top (y := nI (3000 * s9)) (pk_mul 3000 s9) ?_
          refine lv_iload hx hb dX9_sink_107 (lv_at hl 0 rfl) ?_
          refine lv_iadd hx hb dX9_sink_109 ?_
          refine gx_top (y := nI ((3000 * s9) + (((2 * k) + 1) + 1))) (nI_add (3000 * s9) (((2 * k) + 1) + 1)) ?_
          obtain ⟨x3, hx3, ex3⟩ := hi35_2 (((2 * k) + 1) + 1) (by omega)
          have hB3 := gSi_x hi35_5 (i := (((2 * k) + 1) + 1)) (by omega) (by omega) ex3 (by omega) hA3
          refine gy_ild (i := ((3000 * s9) + (((2 * k) + 1) + 1))) hx hb hK hP 0 rfl (by omega) (by omega) dX9_sink_110 ?_
          refine gx_top (y := nI x3) (gy_at ex3 (by omega)) ?_
          refine lv_iload_n hx hb dX9_sink_111 rfl (lv_at hl 5 rfl) ?_
          refine lv_iload hx hb dX9_sink_112 (lv_at hl 2 rfl) ?_
          refine gx_goi (wc := [(h0, .inr (9, [v0, v1, v2, v3, v4, v5, v6, v7, v8, v9, v10, v11, .ref a12, v13, v14, v15, v16, v17, v18, v19, .ref a20, v21, v22, v23, v24, v25, v26, v27, v28, v29, v30, v31, v32, v33, v34, v35, v36, v37, v38, v39, v40, v41, v42, v43, v44, v45, v46, v47, v48, v49, v50, v51])), (a12, .inl (cI, 522000, .inl sf))]) (wr := [(a20, .inl (cI, 9000, .inl g))]) (va_runV (As := [.int (nI s9), .int (nI x3), .int (nI s9), .int (nI x0)]) (rest := []) ⟨hx, hb, hml, hown, hts⟩ (x_compare9 l D cI cB cZ h0 a12 (v0) (v1) (v2) (v3) (v4) (v5) (v6) (v7) (v8) (v9) (v10) (v11) (v13) (v14) (v15) (v16) (v17) (v18) (v19) (.ref a20) (v21) (v22) (v23) (v24) (v25) (v26) (v27) (v28) (v29) (v30) (v31) (v32) (v33) (v34) (v35) (v36) (v37) (v38) (v39) (v40) (v41) (v42) (v43) (v44) (v45) (v46) (v47) (v48) (v49) (v50) (v51) sf s9 x3 s9 x0 (by omega) (by omega) (by omega) (by omega) _) (cwV 4 hts gP_x_sink9__x_compare9 rfl rfl rfl (by decide +kernel) ⟨Nat.le_of_ble_eq_true rfl, Nat.le_of_ble_eq_true rfl⟩) (gx_preV (ci := 9) (q0 := 0) hK gN.nil hP hD [1, 2] rfl rfl rfl rfl) rfl rfl hl.1 rfl (lv_room (Nat.le_of_ble_eq_true rfl)) dX9_sink_114 ⟨Nat.le_of_ble_eq_true rfl, Nat.le_of_ble_eq_true rfl⟩) hP hD hS hA [1, 2] [0] rfl rfl rfl (by decide) (fun r1 w1 H locs hp hP hD hS => ?_)
          obtain ⟨e_12, hx114_0, h9, rfl⟩ := hp
          have h9 := h9.symm
          subst h9
          have hx114_0 : gCq e_12 (gTo sf s9 x3) (gTo sf s9 x0) := hx114_0
          refine lv_if_le (tgt := 124) hx hb dX9_sink_117 (by decide) (fun c_13 => ?_) (fun c_13 => ?_)
          · have hcl : gLq (gTo sf s9) (eB (((2 * k) + 1) + 1)) (eB k) := by rw [hi35_5.2.1, ← hB3]; exact gCq_le hx114_0 c_13
            refine lv_iconst (v := 0) hx hb dX9_sink_124 (by decide) ?_
            refine lv_istore (lv' := [(6, .int 0), (7, .int (nI (((2 * k) + 1) + 1))), (5, .int (nI x0)), (4, .int (nI k)), (0, .ref h0), (1, .int (nI s9)), (2, .int (nI st)), (3, .int (nI n))]) hx hb dX9_sink_125 hl (by decide) rfl (fun ls hl => ?_)
            refine lv_iload hx hb dX9_sink_127 (lv_at hl 0 rfl) ?_
            refine lv_if_eq (tgt := 179) hx hb dX9_sink_129 (by decide) (fun _ => ?_) (fun c9 => absurd (by decide) c9)
            refine lv_goto (tgt := 35) hx hb dX9_sink_179 (by decide) ?_
            have hP : va_P D vwCl [(a20, .inl (cI, 9000, .inl g)), (h0, .inr (9, [v0, v1, v2, v3, v4, v5, v6, v7, v8, v9, v10, v11, .ref a12, v13, v14, v15, v16, v17, v18, v19, .ref a20, v21, v22, v23, v24, v25, v26, v27, v28, v29, v30, v31, v32, v33, v34, v35, v36, v37, v38, v39, v40, v41, v42, v43, v44, v45, v46, v47, v48, v49, v50, v51])), (a12, .inl (cI, 522000, .inl sf))] H := hP
            have hD : va_D A [(a20, .inl (cI, 9000, .inl g)), (h0, .inr (9, [v0, v1, v2, v3, v4, v5, v6, v7, v8, v9, v10, v11, .ref a12, v13, v14, v15, v16, v17, v18, v19, .ref a20, v21, v22, v23, v24, v25, v26, v27, v28, v29, v30, v31, v32, v33, v34, v35, v36, v37, v38, v39, v40, v41, v42, v43, v44, v45, v46, v47, v48, v49, v50, v51])), (a12, .inl (cI, 522000, .inl sf))] := hD
            have hP := hP.sub (ws' := [(h0, .inr (9, [v0, v1, v2, v3, v4, v5, v6, v7, v8, v9, v10, v11, .ref a12, v13, v14, v15, v16, v17, v18, v19, .ref a20, v21, v22, v23, v24, v25, v26, v27, v28, v29, v30, v31, v32, v33, v34, v35, v36, v37, v38, v39, v40, v41, v42, v43, v44, v45, v46, v47, v48, v49, v50, v51])), (a12, .inl (cI, 522000, .inl sf)), (a20, .inl (cI, 9000, .inl g))]) [1, 2, 0] rfl
            have hD := hD.sub (ws' := [(h0, .inr (9, [v0, v1, v2, v3, v4, v5, v6, v7, v8, v9, v10, v11, .ref a12, v13, v14, v15, v16, v17, v18, v19, .ref a20, v21, v22, v23, v24, v25, v26, v27, v28, v29, v30, v31, v32, v33, v34, v35, v36, v37, v38, v39, v40, v41, v42, v43, v44, v45, v46, v47, v48, v49, v50, v51])), (a12, .inl (cI, 522000, .inl sf)), (a20, .inl (cI, 9000, .inl g))]) [1, 2, 0] (by decide) rfl
            exact ih35 (k, 0, g, eB) H locs ls ⟨(by show k < n; omega), (by show 0 = 0 ∨ 2 * k + 1 < n; omega), (by first | exact hi35_2 | exact gEz_u hi35_2 rfl hx3), (by first | exact hi35_3 | exact gFm_u hi35_3 (by omega) (by omega)), (by show 0 ≤ 1; exact Nat.le_of_ble_eq_true rfl), (by show gSi (gTo sf s9) eA eB g (3000 * s9) n st k 0 x0; first | exact gSi_k hi35_5 hmx hcl | exact gSi_m hi35_5 (by omega) (by omega) (by omega) hmx hcg (by omega) rfl hB3), hP, hD, hS, lv_sub hl [0, 2, 3, 4, 5, 6, 7] rfl⟩ (by show 2 * (n - k) + 0 < 2 * (n - k) + zz; omega)
          · have hcg : gLq (gTo sf s9) (eB k) (eB (((2 * k) + 1) + 1)) := by rw [hi35_5.2.1, ← hB3]; exact gCq_gt hx114_0 c_13
            refine lv_iconst (v := 1) hx hb dX9_sink_120 (by decide) ?_
            refine lv_goto (tgt := 125) hx hb dX9_sink_121 (by decide) ?_
            refine lv_istore (lv' := [(6, .int 1), (7, .int (nI (((2 * k) + 1) + 1))), (5, .int (nI x0)), (4, .int (nI k)), (0, .ref h0), (1, .int (nI s9)), (2, .int (nI st)), (3, .int (nI n))]) hx hb dX9_sink_125 hl (by decide) rfl (fun ls hl => ?_)
            refine lv_iload hx hb dX9_sink_127 (lv_at hl 0 rfl) ?_
            refine lv_if_eq (tgt := 179) hx hb dX9_sink_129 (by decide) (fun c9 => absurd c9 (by decide)) (fun _ => ?_)
            refine lv_aload_n hx hb dX9_sink_132 rfl (lv_at hl 4 rfl) ?_
            refine va_get (D := D) (ci := 9) (v := .ref a20) (C := RX9) (T := TX9) (N := 52) hx hb hts (fun _ h => List.mem_cons_of_mem _ (List.mem_append_left _ (List.mem_append_right _ h))) hown hK hP 1 rfl rfl 20 (by decide) (hts (.fieldLink RX9 69 "LitmusHallModel" "ends" "[I") (by decide +kernel)) (fun _ h9 => h9) rfl dX9_sink_133 ?_
            refine lv_sipush (v := 3000) hx hb dX9_sink_136 (by decide) ?_
            refine lv_iload_n hx hb dX9_sink_139 rfl (lv_at hl 5 rfl) ?_
            refine lv_imul hx hb dX9_sink_140 ?_
            refine gx_top (y := nI (3000 * s9)) (pk_mul 3000 s9) ?_
            refine lv_iload hx hb dX9_sink_141 (lv_at hl 3 rfl) ?_
            refine lv_iadd hx hb dX9_sink_143 ?_
            refine gx_top (y := nI ((3000 * s9) + k)) (nI_add (3000 * s9) k) ?_
            refine lv_aload_n hx hb dX9_sink_144 rfl (lv_at hl 4 rfl) ?_
            refine va_get (D := D) (ci := 9) (v := .ref a20) (C := RX9) (T := TX9) (N := 52) hx hb hts (fun _ h => List.mem_cons_of_mem _ (List.mem_append_left _ (List.mem_append_right _ h))) hown hK hP 1 rfl rfl 20 (by decide) (hts (.fieldLink RX9 69 "LitmusHallModel" "ends" "[I") (by decide +kernel)) (fun _ h9 => h9) rfl dX9_sink_145 ?_
            refine lv_sipush (v := 3000) hx hb dX9_sink_148 (by decide) ?_
            refine lv_iload_n hx hb dX9_sink_151 rfl (lv_at hl 5 rfl) ?_
            refine lv_imul hx hb dX9_sink_152 ?_
            refine gx_top (y := nI (3000 * s9)) (pk_mul 3000 s9) ?_
            refine lv_iload hx hb dX9_sink_153 (lv_at hl 1 rfl) ?_
            refine lv_iadd hx hb dX9_sink_155 ?_
            refine gx_top (y := nI ((3000 * s9) + (((2 * k) + 1) + 1))) (nI_add (3000 * s9) (((2 * k) + 1) + 1)) ?_
            refine gy_ild (i := ((3000 * s9) + (((2 * k) + 1) + 1))) hx hb hK hP 0 rfl (by omega) (by omega) dX9_sink_156 ?_
            refine gx_top (y := nI x3) (gy_at ex3 (by omega)) ?_
            refine gy_ist (i := ((3000 * s9) + k)) hx hb hK hP hD hS 0 rfl (by omega) (by omega) dX9_sink_157 (fun H locs hP hD hS => ?_)
            have hP : va_P D vwCl [(a20, .inl (cI, 9000, .inl (upd g ((3000 * s9) + k) (nI x3)))), (h0, .inr (9, [v0, v1, v2, v3, v4, v5, v6, v7, v8, v9, v10, v11, .ref a12, v13, v14, v15, v16, v17, v18, v19, .ref a20, v21, v22, v23, v24, v25, v26, v27, v28, v29, v30, v31, v32, v33, v34, v35, v36, v37, v38, v39, v40, v41, v42, v43, v44, v45, v46, v47, v48, v49, v50, v51])), (a12, .inl (cI, 522000, .inl sf))] H := hP
            have hD : va_D A [(a20, .inl (cI, 9000, .inl (upd g ((3000 * s9) + k) (nI x3)))), (h0, .inr (9, [v0, v1, v2, v3, v4, v5, v6, v7, v8, v9, v10, v11, .ref a12, v13, v14, v15, v16, v17, v18, v19, .ref a20, v21, v22, v23, v24, v25, v26, v27, v28, v29, v30, v31, v32, v33, v34, v35, v36, v37, v38, v39, v40, v41, v42, v43, v44, v45, v46, v47, v48, v49, v50, v51])), (a12, .inl (cI, 522000, .inl sf))] := hD
            refine lv_iload hx hb dX9_sink_158 (lv_at hl 1 rfl) ?_
            refine lv_istore (lv' := [(4, .int (nI (((2 * k) + 1) + 1))), (6, .int 1), (7, .int (nI (((2 * k) + 1) + 1))), (5, .int (nI x0)), (0, .ref h0), (1, .int (nI s9)), (2, .int (nI st)), (3, .int (nI n))]) hx hb dX9_sink_160 hl (by decide) rfl (fun ls hl => ?_)
            refine lv_iconst (v := 2) hx hb dX9_sink_162 (by decide) ?_
            refine lv_iload hx hb dX9_sink_163 (lv_at hl 0 rfl) ?_
            refine lv_imul hx hb dX9_sink_165 ?_
            refine gx_top (y := nI (2 * (((2 * k) + 1) + 1))) (pk_mul 2 (((2 * k) + 1) + 1)) ?_
            refine lv_iconst (v := 1) hx hb dX9_sink_166 (by decide) ?_
            refine lv_iadd hx hb dX9_sink_167 ?_
            refine gx_top (y := nI ((2 * (((2 * k) + 1) + 1)) + 1)) (nI_add (2 * (((2 * k) + 1) + 1)) 1) ?_
            refine lv_iload_n hx hb dX9_sink_168 rfl (lv_at hl 7 rfl) ?_
            refine gy_ge (a := ((2 * (((2 * k) + 1) + 1)) + 1)) (b := n) (tgt := 176) hx hb (by omega) (by omega) dX9_sink_169 (by decide) (fun c_14 => ?_) (fun c_14 => ?_)
            · refine lv_iconst (v := 0) hx hb dX9_sink_176 (by decide) ?_
              refine lv_istore (lv' := [(6, .int 0), (4, .int (nI (((2 * k) + 1) + 1))), (7, .int (nI (((2 * k) + 1) + 1))), (5, .int (nI x0)), (0, .ref h0), (1, .int (nI s9)), (2, .int (nI st)), (3, .int (nI n))]) hx hb dX9_sink_177 hl (by decide) rfl (fun ls hl => ?_)
              refine lv_goto (tgt := 35) hx hb dX9_sink_179 (by decide) ?_
              have hP := hP.sub (ws' := [(h0, .inr (9, [v0, v1, v2, v3, v4, v5, v6, v7, v8, v9, v10, v11, .ref a12, v13, v14, v15, v16, v17, v18, v19, .ref a20, v21, v22, v23, v24, v25, v26, v27, v28, v29, v30, v31, v32, v33, v34, v35, v36, v37, v38, v39, v40, v41, v42, v43, v44, v45, v46, v47, v48, v49, v50, v51])), (a12, .inl (cI, 522000, .inl sf)), (a20, .inl (cI, 9000, .inl (upd g ((3000 * s9) + k) (nI x3))))]) [1, 2, 0] rfl
              have hD := hD.sub (ws' := [(h0, .inr (9, [v0, v1, v2, v3, v4, v5, v6, v7, v8, v9, v10, v11, .ref a12, v13, v14, v15, v16, v17, v18, v19, .ref a20, v21, v22, v23, v24, v25, v26, v27, v28, v29, v30, v31, v32, v33, v34, v35, v36, v37, v38, v39, v40, v41, v42, v43, v44, v45, v46, v47, v48, v49, v50, v51])), (a12, .inl (cI, 522000, .inl sf)), (a20, .inl (cI, 9000, .inl (upd g ((3000 * s9) + k) (nI x3))))]) [1, 2, 0] (by decide) rfl
              exact ih35 ((((2 * k) + 1) + 1), 0, (upd g ((3000 * s9) + k) (nI x3)), (updN (updN eB k (eB (((2 * k) + 1) + 1))) (((2 * k) + 1) + 1) (eB k))) H locs ls ⟨(by show (((2 * k) + 1) + 1) < n; omega), (by show 0 = 0 ∨ 2 * (((2 * k) + 1) + 1) + 1 < n; omega), (by first | exact hi35_2 | exact gEz_u hi35_2 rfl hx3), (by first | exact hi35_3 | exact gFm_u hi35_3 (by omega) (by omega)), (by show 0 ≤ 1; exact Nat.le_of_ble_eq_true rfl), (by show gSi (gTo sf s9) eA (updN (updN eB k (eB (((2 * k) + 1) + 1))) (((2 * k) + 1) + 1) (eB k)) (upd g ((3000 * s9) + k) (nI x3)) (3000 * s9) n st (((2 * k) + 1) + 1) 0 x0; first | exact gSi_k hi35_5 hmx hcl | exact gSi_m hi35_5 (by omega) (by omega) (by omega) hmx hcg (by omega) rfl hB3), hP, hD, hS, lv_sub hl [0, 3, 1, 4, 5, 6, 7] rfl⟩ (by show 2 * (n - (((2 * k) + 1) + 1)) + 0 < 2 * (n - k) + zz; omega)
            · refine lv_iconst (v := 1) hx hb dX9_sink_172 (by decide) ?_
              refine lv_goto (tgt := 177) hx hb dX9_sink_173 (by decide) ?_
              refine lv_istore (lv' := [(6, .int 1), (4, .int (nI (((2 * k) + 1) + 1))), (7, .int (nI (((2 * k) + 1) + 1))), (5, .int (nI x0)), (0, .ref h0), (1, .int (nI s9)), (2, .int (nI st)), (3, .int (nI n))]) hx hb dX9_sink_177 hl (by decide) rfl (fun ls hl => ?_)
              refine lv_goto (tgt := 35) hx hb dX9_sink_179 (by decide) ?_
              have hP := hP.sub (ws' := [(h0, .inr (9, [v0, v1, v2, v3, v4, v5, v6, v7, v8, v9, v10, v11, .ref a12, v13, v14, v15, v16, v17, v18, v19, .ref a20, v21, v22, v23, v24, v25, v26, v27, v28, v29, v30, v31, v32, v33, v34, v35, v36, v37, v38, v39, v40, v41, v42, v43, v44, v45, v46, v47, v48, v49, v50, v51])), (a12, .inl (cI, 522000, .inl sf)), (a20, .inl (cI, 9000, .inl (upd g ((3000 * s9) + k) (nI x3))))]) [1, 2, 0] rfl
              have hD := hD.sub (ws' := [(h0, .inr (9, [v0, v1, v2, v3, v4, v5, v6, v7, v8, v9, v10, v11, .ref a12, v13, v14, v15, v16, v17, v18, v19, .ref a20, v21, v22, v23, v24, v25, v26, v27, v28, v29, v30, v31, v32, v33, v34, v35, v36, v37, v38, v39, v40, v41, v42, v43, v44, v45, v46, v47, v48, v49, v50, v51])), (a12, .inl (cI, 522000, .inl sf)), (a20, .inl (cI, 9000, .inl (upd g ((3000 * s9) + k) (nI x3))))]) [1, 2, 0] (by decide) rfl
              exact ih35 ((((2 * k) + 1) + 1), 1, (upd g ((3000 * s9) + k) (nI x3)), (updN (updN eB k (eB (((2 * k) + 1) + 1))) (((2 * k) + 1) + 1) (eB k))) H locs ls ⟨(by show (((2 * k) + 1) + 1) < n; omega), (by show 1 = 0 ∨ 2 * (((2 * k) + 1) + 1) + 1 < n; omega), (by first | exact hi35_2 | exact gEz_u hi35_2 rfl hx3), (by first | exact hi35_3 | exact gFm_u hi35_3 (by omega) (by omega)), (by show 1 ≤ 1; exact Nat.le_of_ble_eq_true rfl), (by show gSi (gTo sf s9) eA (updN (updN eB k (eB (((2 * k) + 1) + 1))) (((2 * k) + 1) + 1) (eB k)) (upd g ((3000 * s9) + k) (nI x3)) (3000 * s9) n st (((2 * k) + 1) + 1) 1 x0; first | exact gSi_k hi35_5 hmx hcl | exact gSi_m hi35_5 (by omega) (by omega) (by omega) hmx hcg (by omega) rfl hB3), hP, hD, hS, lv_sub hl [0, 3, 1, 4, 5, 6, 7] rfl⟩ (by show 2 * (n - (((2 * k) + 1) + 1)) + 1 < 2 * (n - k) + zz; omega)
  · refine lv_iconst (v := 1) hx hb dX9_sink_28 (by decide) ?_
    refine lv_goto (tgt := 33) hx hb dX9_sink_29 (by decide) ?_
    refine lv_istore (lv' := [(6, .int 1), (5, .int (nI x0)), (4, .int (nI st)), (0, .ref h0), (1, .int (nI s9)), (2, .int (nI st)), (3, .int (nI n))]) hx hb dX9_sink_33 hl (by decide) rfl (fun ls hl => ?_)
    refine gy_loop0 (I := fun (x9 : Nat × Nat × (Nat → Int32) × (Nat → Nat)) H locs ls => (x9.1 < n) ∧ (x9.2.1 = 0 ∨ 2 * x9.1 + 1 < n) ∧ (gEz x9.2.2.1 (3000 * s9) n sz) ∧ (gFm x9.2.2.1 en (3000 * s9) n) ∧ (x9.2.1 ≤ 1) ∧ (gSi (gTo sf s9) eA x9.2.2.2 x9.2.2.1 (3000 * s9) n st x9.1 x9.2.1 x0) ∧ va_P D vwCl [(h0, .inr (9, [v0, v1, v2, v3, v4, v5, v6, v7, v8, v9, v10, v11, .ref a12, v13, v14, v15, v16, v17, v18, v19, .ref a20, v21, v22, v23, v24, v25, v26, v27, v28, v29, v30, v31, v32, v33, v34, v35, v36, v37, v38, v39, v40, v41, v42, v43, v44, v45, v46, v47, v48, v49, v50, v51])), (a12, .inl (cI, 522000, .inl sf)), (a20, .inl (cI, 9000, .inl x9.2.2.1))] H ∧ va_D A [(h0, .inr (9, [v0, v1, v2, v3, v4, v5, v6, v7, v8, v9, v10, v11, .ref a12, v13, v14, v15, v16, v17, v18, v19, .ref a20, v21, v22, v23, v24, v25, v26, v27, v28, v29, v30, v31, v32, v33, v34, v35, v36, v37, v38, v39, v40, v41, v42, v43, v44, v45, v46, v47, v48, v49, v50, v51])), (a12, .inl (cI, 522000, .inl sf)), (a20, .inl (cI, 9000, .inl x9.2.2.1))] ∧ va_S A s.heap H locs ∧ lv_has ls 8 [(6, .int (nI x9.2.1)), (5, .int (nI x0)), (4, .int (nI x9.1)), (0, .ref h0), (1, .int (nI s9)), (2, .int (nI st)), (3, .int (nI n))]) (μ := fun (x9 : Nat × Nat × (Nat → Int32) × (Nat → Nat)) => 2 * (n - x9.1) + x9.2.1) (fun x9 H locs ls hI ih35 => ?_) (st, 1, en, eA) ⟨(by show st < n; omega), (by show 1 = 0 ∨ 2 * st + 1 < n; omega), hE, gFm_0, (by show 1 ≤ 1; exact Nat.le_of_ble_eq_true rfl), (gSi_0 (fun i hi => (heA i hi).1) hdA hHe hx0A (fun h9 => by first | omega | exact absurd (show (1 : Nat) = 0 from h9) (by decide))), hP, hD, hS, lv_sub hl [0, 1, 2, 3, 4, 5, 6] rfl⟩
    obtain ⟨k, zz, g, eB⟩ := x9
    obtain ⟨hi35_0, hi35_1, hi35_2, hi35_3, hi35_4, hi35_5, hP, hD, hS, hl⟩ := hI
    have hi35_0 : k < n := hi35_0
    have hi35_1 : zz = 0 ∨ 2 * k + 1 < n := hi35_1
    have hi35_2 : gEz g (3000 * s9) n sz := hi35_2
    have hi35_3 : gFm g en (3000 * s9) n := hi35_3
    have hi35_4 : zz ≤ 1 := hi35_4
    have hi35_5 : gSi (gTo sf s9) eA eB g (3000 * s9) n st k zz x0 := hi35_5
    have hP : va_P D vwCl [(h0, .inr (9, [v0, v1, v2, v3, v4, v5, v6, v7, v8, v9, v10, v11, .ref a12, v13, v14, v15, v16, v17, v18, v19, .ref a20, v21, v22, v23, v24, v25, v26, v27, v28, v29, v30, v31, v32, v33, v34, v35, v36, v37, v38, v39, v40, v41, v42, v43, v44, v45, v46, v47, v48, v49, v50, v51])), (a12, .inl (cI, 522000, .inl sf)), (a20, .inl (cI, 9000, .inl g))] H := hP
    have hD : va_D A [(h0, .inr (9, [v0, v1, v2, v3, v4, v5, v6, v7, v8, v9, v10, v11, .ref a12, v13, v14, v15, v16, v17, v18, v19, .ref a20, v21, v22, v23, v24, v25, v26, v27, v28, v29, v30, v31, v32, v33, v34, v35, v36, v37, v38, v39, v40, v41, v42, v43, v44, v45, v46, v47, v48, v49, v50, v51])), (a12, .inl (cI, 522000, .inl sf)), (a20, .inl (cI, 9000, .inl g))] := hD
    have hS : va_S A s.heap H locs := hS
    have hl : lv_has ls 8 [(6, .int (nI zz)), (5, .int (nI x0)), (4, .int (nI k)), (0, .ref h0), (1, .int (nI s9)), (2, .int (nI st)), (3, .int (nI n))] := hl
    refine lv_iload hx hb dX9_sink_35 (lv_at hl 0 rfl) ?_
    refine lv_if_eq (tgt := 182) hx hb dX9_sink_37 (by decide) (fun c_15i => ?_) (fun c_15i => ?_)
    · have c_15 : zz = 0 := (nI_eq (a := zz) (b := 0) (by omega) (by decide)).mp c_15i
      refine lv_aload_n hx hb dX9_sink_182 rfl (lv_at hl 3 rfl) ?_
      refine va_get (D := D) (ci := 9) (v := .ref a20) (C := RX9) (T := TX9) (N := 52) hx hb hts (fun _ h => List.mem_cons_of_mem _ (List.mem_append_left _ (List.mem_append_right _ h))) hown hK hP 0 rfl rfl 20 (by decide) (hts (.fieldLink RX9 69 "LitmusHallModel" "ends" "[I") (by decide +kernel)) (fun _ h9 => h9) rfl dX9_sink_183 ?_
      refine lv_sipush (v := 3000) hx hb dX9_sink_186 (by decide) ?_
      refine lv_iload_n hx hb dX9_sink_189 rfl (lv_at hl 4 rfl) ?_
      refine lv_imul hx hb dX9_sink_190 ?_
      refine gx_top (y := nI (3000 * s9)) (pk_mul 3000 s9) ?_
      refine lv_iload hx hb dX9_sink_191 (lv_at hl 2 rfl) ?_
      refine lv_iadd hx hb dX9_sink_193 ?_
      refine gx_top (y := nI ((3000 * s9) + k)) (nI_add (3000 * s9) k) ?_
      refine lv_iload hx hb dX9_sink_194 (lv_at hl 1 rfl) ?_
      refine gy_ist (i := ((3000 * s9) + k)) hx hb hK hP hD hS 2 rfl (by omega) (by omega) dX9_sink_196 (fun H locs hP hD hS => ?_)
      have hP : va_P D vwCl [(h0, .inr (9, [v0, v1, v2, v3, v4, v5, v6, v7, v8, v9, v10, v11, .ref a12, v13, v14, v15, v16, v17, v18, v19, .ref a20, v21, v22, v23, v24, v25, v26, v27, v28, v29, v30, v31, v32, v33, v34, v35, v36, v37, v38, v39, v40, v41, v42, v43, v44, v45, v46, v47, v48, v49, v50, v51])), (a12, .inl (cI, 522000, .inl sf)), (a20, .inl (cI, 9000, .inl (upd g ((3000 * s9) + k) (nI x0))))] H := hP
      have hD : va_D A [(h0, .inr (9, [v0, v1, v2, v3, v4, v5, v6, v7, v8, v9, v10, v11, .ref a12, v13, v14, v15, v16, v17, v18, v19, .ref a20, v21, v22, v23, v24, v25, v26, v27, v28, v29, v30, v31, v32, v33, v34, v35, v36, v37, v38, v39, v40, v41, v42, v43, v44, v45, v46, v47, v48, v49, v50, v51])), (a12, .inl (cI, 522000, .inl sf)), (a20, .inl (cI, 9000, .inl (upd g ((3000 * s9) + k) (nI x0))))] := hD
      exact gx_vret (w' := [(h0, .inr (9, [v0, v1, v2, v3, v4, v5, v6, v7, v8, v9, v10, v11, .ref a12, v13, v14, v15, v16, v17, v18, v19, .ref a20, v21, v22, v23, v24, v25, v26, v27, v28, v29, v30, v31, v32, v33, v34, v35, v36, v37, v38, v39, v40, v41, v42, v43, v44, v45, v46, v47, v48, v49, v50, v51])), (a12, .inl (cI, 522000, .inl sf)), (a20, .inl (cI, 9000, .inl (upd g ((3000 * s9) + k) (nI x0))))]) hx hb hr hlk hK hP hD hS (Nat.le_of_ble_eq_true rfl) (Nat.le_of_ble_eq_true rfl) dX9_sink_197 ⟨(upd g ((3000 * s9) + k) (nI x0)), (gEz_u hi35_2 rfl hx0), (gFm_u hi35_3 (by omega) (by omega)), (by have h9 := hi35_5; rw [c_15] at h9; exact gSi_e h9 rfl), rfl⟩
    · have c_15 : zz ≠ 0 := fun q9 => c_15i ((nI_eq (a := zz) (b := 0) (by omega) (by decide)).mpr q9)
      refine lv_iconst (v := 2) hx hb dX9_sink_40 (by decide) ?_
      refine lv_iload hx hb dX9_sink_41 (lv_at hl 2 rfl) ?_
      refine lv_imul hx hb dX9_sink_43 ?_
      refine gx_top (y := nI (2 * k)) (pk_mul 2 k) ?_
      refine lv_iconst (v := 1) hx hb dX9_sink_44 (by decide) ?_
      refine lv_iadd hx hb dX9_sink_45 ?_
      refine gx_top (y := nI ((2 * k) + 1)) (nI_add (2 * k) 1) ?_
      refine lv_istore (lv' := [(7, .int (nI ((2 * k) + 1))), (6, .int (nI zz)), (5, .int (nI x0)), (4, .int (nI k)), (0, .ref h0), (1, .int (nI s9)), (2, .int (nI st)), (3, .int (nI n))]) hx hb dX9_sink_46 hl (by decide) rfl (fun ls hl => ?_)
      refine lv_iload hx hb dX9_sink_48 (lv_at hl 0 rfl) ?_
      refine lv_iconst (v := 1) hx hb dX9_sink_50 (by decide) ?_
      refine lv_iadd hx hb dX9_sink_51 ?_
      refine gx_top (y := nI (((2 * k) + 1) + 1)) (nI_add ((2 * k) + 1) 1) ?_
      refine lv_iload_n hx hb dX9_sink_52 rfl (lv_at hl 7 rfl) ?_
      refine gy_ge (a := (((2 * k) + 1) + 1)) (b := n) (tgt := 96) hx hb (by omega) (by omega) dX9_sink_53 (by decide) (fun c_16 => ?_) (fun c_16 => ?_)
      · have hmx : ∀ d, (d = 2 * k + 1 ∨ d = 2 * k + 2) → d < n → gLq (gTo sf s9) (eB d) (eB ((2 * k) + 1)) := by first | exact gMx_a (by omega) (by omega) | exact gMx_b (by omega) (by have h9 := gCq_le hx87_0 c_16; rw [hB1, hB2] at h9; exact h9) | exact gMx_c (by omega) (by have h9 := gCq_gt hx87_0 c_16; rw [hB1, hB2] at h9; exact h9)
        refine lv_aload_n hx hb dX9_sink_96 rfl (lv_at hl 4 rfl) ?_
        refine lv_iload_n hx hb dX9_sink_97 rfl (lv_at hl 5 rfl) ?_
        refine lv_aload_n hx hb dX9_sink_98 rfl (lv_at hl 4 rfl) ?_
        refine va_get (D := D) (ci := 9) (v := .ref a20) (C := RX9) (T := TX9) (N := 52) hx hb hts (fun _ h => List.mem_cons_of_mem _ (List.mem_append_left _ (List.mem_append_right _ h))) hown hK hP 0 rfl rfl 20 (by decide) (hts (.fieldLink RX9 69 "LitmusHallModel" "ends" "[I") (by decide +kernel)) (fun _ h9 => h9) rfl dX9_sink_99 ?_
        refine lv_sipush (v := 3000) hx hb dX9_sink_102 (by decide) ?_
        refine lv_iload_n hx hb dX9_sink_105 rfl (lv_at hl 5 rfl) ?_
        refine lv_imul hx hb dX9_sink_106 ?_
        refine gx_top (y := nI (3000 * s9)) (pk_mul 3000 s9) ?_
        refine lv_iload hx hb dX9_sink_107 (lv_at hl 0 rfl) ?_
        refine lv_iadd hx hb dX9_sink_109 ?_
        refine gx_top (y := nI ((3000 * s9) + ((2 * k) + 1))) (nI_add (3000 * s9) ((2 * k) + 1)) ?_
        obtain ⟨x3, hx3, ex3⟩ := hi35_2 ((2 * k) + 1) (by omega)
        have hB3 := gSi_x hi35_5 (i := ((2 * k) + 1)) (by omega) (by omega) ex3 (by omega) hA3
        refine gy_ild (i := ((3000 * s9) + ((2 * k) + 1))) hx hb hK hP 2 rfl (by omega) (by omega) dX9_sink_110 ?_
        refine gx_top (y := nI x3) (gy_at ex3 (by omega)) ?_
        refine lv_iload_n hx hb dX9_sink_111 rfl (lv_at hl 5 rfl) ?_
        refine lv_iload hx hb dX9_sink_112 (lv_at hl 2 rfl) ?_
        refine gx_goi (wc := [(h0, .inr (9, [v0, v1, v2, v3, v4, v5, v6, v7, v8, v9, v10, v11, .ref a12, v13, v14, v15, v16, v17, v18, v19, .ref a20, v21, v22, v23, v24, v25, v26, v27, v28, v29, v30, v31, v32, v33, v34, v35, v36, v37, v38, v39, v40, v41, v42, v43, v44, v45, v46, v47, v48, v49, v50, v51])), (a12, .inl (cI, 522000, .inl sf))]) (wr := [(a20, .inl (cI, 9000, .inl g))]) (va_runV (As := [.int (nI s9), .int (nI x3), .int (nI s9), .int (nI x0)]) (rest := []) ⟨hx, hb, hml, hown, hts⟩ (x_compare9 l D cI cB cZ h0 a12 (v0) (v1) (v2) (v3) (v4) (v5) (v6) (v7) (v8) (v9) (v10) (v11) (v13) (v14) (v15) (v16) (v17) (v18) (v19) (.ref a20) (v21) (v22) (v23) (v24) (v25) (v26) (v27) (v28) (v29) (v30) (v31) (v32) (v33) (v34) (v35) (v36) (v37) (v38) (v39) (v40) (v41) (v42) (v43) (v44) (v45) (v46) (v47) (v48) (v49) (v50) (v51) sf s9 x3 s9 x0 (by omega) (by omega) (by omega) (by omega) _) (cwV 4 hts gP_x_sink9__x_compare9 rfl rfl rfl (by decide +kernel) ⟨Nat.le_of_ble_eq_true rfl, Nat.le_of_ble_eq_true rfl⟩) (gx_preV (ci := 9) (q0 := 0) hK gN.nil hP hD [0, 1] rfl rfl rfl rfl) rfl rfl hl.1 rfl (lv_room (Nat.le_of_ble_eq_true rfl)) dX9_sink_114 ⟨Nat.le_of_ble_eq_true rfl, Nat.le_of_ble_eq_true rfl⟩) hP hD hS hA [0, 1] [2] rfl rfl rfl (by decide) (fun r1 w1 H locs hp hP hD hS => ?_)
        obtain ⟨e_17, hx114_0, h9, rfl⟩ := hp
        have h9 := h9.symm
        subst h9
        have hx114_0 : gCq e_17 (gTo sf s9 x3) (gTo sf s9 x0) := hx114_0
        refine lv_if_le (tgt := 124) hx hb dX9_sink_117 (by decide) (fun c_18 => ?_) (fun c_18 => ?_)
        · have hcl : gLq (gTo sf s9) (eB ((2 * k) + 1)) (eB k) := by rw [hi35_5.2.1, ← hB3]; exact gCq_le hx114_0 c_18
          refine lv_iconst (v := 0) hx hb dX9_sink_124 (by decide) ?_
          refine lv_istore (lv' := [(6, .int 0), (7, .int (nI ((2 * k) + 1))), (5, .int (nI x0)), (4, .int (nI k)), (0, .ref h0), (1, .int (nI s9)), (2, .int (nI st)), (3, .int (nI n))]) hx hb dX9_sink_125 hl (by decide) rfl (fun ls hl => ?_)
          refine lv_iload hx hb dX9_sink_127 (lv_at hl 0 rfl) ?_
          refine lv_if_eq (tgt := 179) hx hb dX9_sink_129 (by decide) (fun _ => ?_) (fun c9 => absurd (by decide) c9)
          refine lv_goto (tgt := 35) hx hb dX9_sink_179 (by decide) ?_
          have hP : va_P D vwCl [(a20, .inl (cI, 9000, .inl g)), (h0, .inr (9, [v0, v1, v2, v3, v4, v5, v6, v7, v8, v9, v10, v11, .ref a12, v13, v14, v15, v16, v17, v18, v19, .ref a20, v21, v22, v23, v24, v25, v26, v27, v28, v29, v30, v31, v32, v33, v34, v35, v36, v37, v38, v39, v40, v41, v42, v43, v44, v45, v46, v47, v48, v49, v50, v51])), (a12, .inl (cI, 522000, .inl sf))] H := hP
          have hD : va_D A [(a20, .inl (cI, 9000, .inl g)), (h0, .inr (9, [v0, v1, v2, v3, v4, v5, v6, v7, v8, v9, v10, v11, .ref a12, v13, v14, v15, v16, v17, v18, v19, .ref a20, v21, v22, v23, v24, v25, v26, v27, v28, v29, v30, v31, v32, v33, v34, v35, v36, v37, v38, v39, v40, v41, v42, v43, v44, v45, v46, v47, v48, v49, v50, v51])), (a12, .inl (cI, 522000, .inl sf))] := hD
          have hP := hP.sub (ws' := [(h0, .inr (9, [v0, v1, v2, v3, v4, v5, v6, v7, v8, v9, v10, v11, .ref a12, v13, v14, v15, v16, v17, v18, v19, .ref a20, v21, v22, v23, v24, v25, v26, v27, v28, v29, v30, v31, v32, v33, v34, v35, v36, v37, v38, v39, v40, v41, v42, v43, v44, v45, v46, v47, v48, v49, v50, v51])), (a12, .inl (cI, 522000, .inl sf)), (a20, .inl (cI, 9000, .inl g))]) [1, 2, 0] rfl
          have hD := hD.sub (ws' := [(h0, .inr (9, [v0, v1, v2, v3, v4, v5, v6, v7, v8, v9, v10, v11, .ref a12, v13, v14, v15, v16, v17, v18, v19, .ref a20, v21, v22, v23, v24, v25, v26, v27, v28, v29, v30, v31, v32, v33, v34, v35, v36, v37, v38, v39, v40, v41, v42, v43, v44, v45, v46, v47, v48, v49, v50, v51])), (a12, .inl (cI, 522000, .inl sf)), (a20, .inl (cI, 9000, .inl g))]) [1, 2, 0] (by decide) rfl
          exact ih35 (k, 0, g, eB) H locs ls ⟨(by show k < n; omega), (by show 0 = 0 ∨ 2 * k + 1 < n; omega), (by first | exact hi35_2 | exact gEz_u hi35_2 rfl hx3), (by first | exact hi35_3 | exact gFm_u hi35_3 (by omega) (by omega)), (by show 0 ≤ 1; exact Nat.le_of_ble_eq_true rfl), (by show gSi (gTo sf s9) eA eB g (3000 * s9) n st k 0 x0; first | exact gSi_k hi35_5 hmx hcl | exact gSi_m hi35_5 (by omega) (by omega) (by omega) hmx hcg (by omega) rfl hB3), hP, hD, hS, lv_sub hl [0, 2, 3, 4, 5, 6, 7] rfl⟩ (by show 2 * (n - k) + 0 < 2 * (n - k) + zz; omega)
        · have hcg : gLq (gTo sf s9) (eB k) (eB ((2 * k) + 1)) := by rw [hi35_5.2.1, ← hB3]; exact gCq_gt hx114_0 c_18
          refine lv_iconst (v := 1) hx hb dX9_sink_120 (by decide) ?_
          refine lv_goto (tgt := 125) hx hb dX9_sink_121 (by decide) ?_
          refine lv_istore (lv' := [(6, .int 1), (7, .int (nI ((2 * k) + 1))), (5, .int (nI x0)), (4, .int (nI k)), (0, .ref h0), (1, .int (nI s9)), (2, .int (nI st)), (3, .int (nI n))]) hx hb dX9_sink_125 hl (by decide) rfl (fun ls hl => ?_)
          refine lv_iload hx hb dX9_sink_127 (lv_at hl 0 rfl) ?_
          refine lv_if_eq (tgt := 179) hx hb dX9_sink_129 (by decide) (fun c9 => absurd c9 (by decide)) (fun _ => ?_)
          refine lv_aload_n hx hb dX9_sink_132 rfl (lv_at hl 4 rfl) ?_
          refine va_get (D := D) (ci := 9) (v := .ref a20) (C := RX9) (T := TX9) (N := 52) hx hb hts (fun _ h => List.mem_cons_of_mem _ (List.mem_append_left _ (List.mem_append_right _ h))) hown hK hP 1 rfl rfl 20 (by decide) (hts (.fieldLink RX9 69 "LitmusHallModel" "ends" "[I") (by decide +kernel)) (fun _ h9 => h9) rfl dX9_sink_133 ?_
          refine lv_sipush (v := 3000) hx hb dX9_sink_136 (by decide) ?_
          refine lv_iload_n hx hb dX9_sink_139 rfl (lv_at hl 5 rfl) ?_
          refine lv_imul hx hb dX9_sink_140 ?_
          refine gx_top (y := nI (3000 * s9)) (pk_mul 3000 s9) ?_
          refine lv_iload hx hb dX9_sink_141 (lv_at hl 3 rfl) ?_
          refine lv_iadd hx hb dX9_sink_143 ?_
          refine gx_top (y := nI ((3000 * s9) + k)) (nI_add (3000 * s9) k) ?_
          refine lv_aload_n hx hb dX9_sink_144 rfl (lv_at hl 4 rfl) ?_
          refine va_get (D := D) (ci := 9) (v := .ref a20) (C := RX9) (T := TX9) (N := 52) hx hb hts (fun _ h => List.mem_cons_of_mem _ (List.mem_append_left _ (List.mem_append_right _ h))) hown hK hP 1 rfl rfl 20 (by decide) (hts (.fieldLink RX9 69 "LitmusHallModel" "ends" "[I") (by decide +kernel)) (fun _ h9 => h9) rfl dX9_sink_145 ?_
          refine lv_sipush (v := 3000) hx hb dX9_sink_148 (by decide) ?_
          refine lv_iload_n hx hb dX9_sink_151 rfl (lv_at hl 5 rfl) ?_
          refine lv_imul hx hb dX9_sink_152 ?_
          refine gx_top (y := nI (3000 * s9)) (pk_mul 3000 s9) ?_
          refine lv_iload hx hb dX9_sink_153 (lv_at hl 1 rfl) ?_
          refine lv_iadd hx hb dX9_sink_155 ?_
          refine gx_top (y := nI ((3000 * s9) + ((2 * k) + 1))) (nI_add (3000 * s9) ((2 * k) + 1)) ?_
          refine gy_ild (i := ((3000 * s9) + ((2 * k) + 1))) hx hb hK hP 0 rfl (by omega) (by omega) dX9_sink_156 ?_
          refine gx_top (y := nI x3) (gy_at ex3 (by omega)) ?_
          refine gy_ist (i := ((3000 * s9) + k)) hx hb hK hP hD hS 0 rfl (by omega) (by omega) dX9_sink_157 (fun H locs hP hD hS => ?_)
          have hP : va_P D vwCl [(a20, .inl (cI, 9000, .inl (upd g ((3000 * s9) + k) (nI x3)))), (h0, .inr (9, [v0, v1, v2, v3, v4, v5, v6, v7, v8, v9, v10, v11, .ref a12, v13, v14, v15, v16, v17, v18, v19, .ref a20, v21, v22, v23, v24, v25, v26, v27, v28, v29, v30, v31, v32, v33, v34, v35, v36, v37, v38, v39, v40, v41, v42, v43, v44, v45, v46, v47, v48, v49, v50, v51])), (a12, .inl (cI, 522000, .inl sf))] H := hP
          have hD : va_D A [(a20, .inl (cI, 9000, .inl (upd g ((3000 * s9) + k) (nI x3)))), (h0, .inr (9, [v0, v1, v2, v3, v4, v5, v6, v7, v8, v9, v10, v11, .ref a12, v13, v14, v15, v16, v17, v18, v19, .ref a20, v21, v22, v23, v24, v25, v26, v27, v28, v29, v30, v31, v32, v33, v34, v35, v36, v37, v38, v39, v40, v41, v42, v43, v44, v45, v46, v47, v48, v49, v50, v51])), (a12, .inl (cI, 522000, .inl sf))] := hD
          refine lv_iload hx hb dX9_sink_158 (lv_at hl 1 rfl) ?_
          refine lv_istore (lv' := [(4, .int (nI ((2 * k) + 1))), (6, .int 1), (7, .int (nI ((2 * k) + 1))), (5, .int (nI x0)), (0, .ref h0), (1, .int (nI s9)), (2, .int (nI st)), (3, .int (nI n))]) hx hb dX9_sink_160 hl (by decide) rfl (fun ls hl => ?_)
          refine lv_iconst (v := 2) hx hb dX9_sink_162 (by decide) ?_
          refine lv_iload hx hb dX9_sink_163 (lv_at hl 0 rfl) ?_
          refine lv_imul hx hb dX9_sink_165 ?_
          refine gx_top (y := nI (2 * ((2 * k) + 1))) (pk_mul 2 ((2 * k) + 1)) ?_
          refine lv_iconst (v := 1) hx hb dX9_sink_166 (by decide) ?_
          refine lv_iadd hx hb dX9_sink_167 ?_
          refine gx_top (y := nI ((2 * ((2 * k) + 1)) + 1)) (nI_add (2 * ((2 * k) + 1)) 1) ?_
          refine lv_iload_n hx hb dX9_sink_168 rfl (lv_at hl 7 rfl) ?_
          refine gy_ge (a := ((2 * ((2 * k) + 1)) + 1)) (b := n) (tgt := 176) hx hb (by omega) (by omega) dX9_sink_169 (by decide) (fun c_19 => ?_) (fun c_19 => ?_)
          · refine lv_iconst (v := 0) hx hb dX9_sink_176 (by decide) ?_
            refine lv_istore (lv' := [(6, .int 0), (4, .int (nI ((2 * k) + 1))), (7, .int (nI ((2 * k) + 1))), (5, .int (nI x0)), (0, .ref h0), (1, .int (nI s9)), (2, .int (nI st)), (3, .int (nI n))]) hx hb dX9_sink_177 hl (by decide) rfl (fun ls hl => ?_)
            refine lv_goto (tgt := 35) hx hb dX9_sink_179 (by decide) ?_
            have hP := hP.sub (ws' := [(h0, .inr (9, [v0, v1, v2, v3, v4, v5, v6, v7, v8, v9, v10, v11, .ref a12, v13, v14, v15, v16, v17, v18, v19, .ref a20, v21, v22, v23, v24, v25, v26, v27, v28, v29, v30, v31, v32, v33, v34, v35, v36, v37, v38, v39, v40, v41, v42, v43, v44, v45, v46, v47, v48, v49, v50, v51])), (a12, .inl (cI, 522000, .inl sf)), (a20, .inl (cI, 9000, .inl (upd g ((3000 * s9) + k) (nI x3))))]) [1, 2, 0] rfl
            have hD := hD.sub (ws' := [(h0, .inr (9, [v0, v1, v2, v3, v4, v5, v6, v7, v8, v9, v10, v11, .ref a12, v13, v14, v15, v16, v17, v18, v19, .ref a20, v21, v22, v23, v24, v25, v26, v27, v28, v29, v30, v31, v32, v33, v34, v35, v36, v37, v38, v39, v40, v41, v42, v43, v44, v45, v46, v47, v48, v49, v50, v51])), (a12, .inl (cI, 522000, .inl sf)), (a20, .inl (cI, 9000, .inl (upd g ((3000 * s9) + k) (nI x3))))]) [1, 2, 0] (by decide) rfl
            exact ih35 (((2 * k) + 1), 0, (upd g ((3000 * s9) + k) (nI x3)), (updN (updN eB k (eB ((2 * k) + 1))) ((2 * k) + 1) (eB k))) H locs ls ⟨(by show ((2 * k) + 1) < n; omega), (by show 0 = 0 ∨ 2 * ((2 * k) + 1) + 1 < n; omega), (by first | exact hi35_2 | exact gEz_u hi35_2 rfl hx3), (by first | exact hi35_3 | exact gFm_u hi35_3 (by omega) (by omega)), (by show 0 ≤ 1; exact Nat.le_of_ble_eq_true rfl), (by show gSi (gTo sf s9) eA (updN (updN eB k (eB ((2 * k) + 1))) ((2 * k) + 1) (eB k)) (upd g ((3000 * s9) + k) (nI x3)) (3000 * s9) n st ((2 * k) + 1) 0 x0; first | exact gSi_k hi35_5 hmx hcl | exact gSi_m hi35_5 (by omega) (by omega) (by omega) hmx hcg (by omega) rfl hB3), hP, hD, hS, lv_sub hl [0, 3, 1, 4, 5, 6, 7] rfl⟩ (by show 2 * (n - ((2 * k) + 1)) + 0 < 2 * (n - k) + zz; omega)
          · refine lv_iconst (v := 1) hx hb dX9_sink_172 (by decide) ?_
            refine lv_goto (tgt := 177) hx hb dX9_sink_173 (by decide) ?_
            refine lv_istore (lv' := [(6, .int 1), (4, .int (nI ((2 * k) + 1))), (7, .int (nI ((2 * k) + 1))), (5, .int (nI x0)), (0, .ref h0), (1, .int (nI s9)), (2, .int (nI st)), (3, .int (nI n))]) hx hb dX9_sink_177 hl (by decide) rfl (fun ls hl => ?_)
            refine lv_goto (tgt := 35) hx hb dX9_sink_179 (by decide) ?_
            have hP := hP.sub (ws' := [(h0, .inr (9, [v0, v1, v2, v3, v4, v5, v6, v7, v8, v9, v10, v11, .ref a12, v13, v14, v15, v16, v17, v18, v19, .ref a20, v21, v22, v23, v24, v25, v26, v27, v28, v29, v30, v31, v32, v33, v34, v35, v36, v37, v38, v39, v40, v41, v42, v43, v44, v45, v46, v47, v48, v49, v50, v51])), (a12, .inl (cI, 522000, .inl sf)), (a20, .inl (cI, 9000, .inl (upd g ((3000 * s9) + k) (nI x3))))]) [1, 2, 0] rfl
            have hD := hD.sub (ws' := [(h0, .inr (9, [v0, v1, v2, v3, v4, v5, v6, v7, v8, v9, v10, v11, .ref a12, v13, v14, v15, v16, v17, v18, v19, .ref a20, v21, v22, v23, v24, v25, v26, v27, v28, v29, v30, v31, v32, v33, v34, v35, v36, v37, v38, v39, v40, v41, v42, v43, v44, v45, v46, v47, v48, v49, v50, v51])), (a12, .inl (cI, 522000, .inl sf)), (a20, .inl (cI, 9000, .inl (upd g ((3000 * s9) + k) (nI x3))))]) [1, 2, 0] (by decide) rfl
            exact ih35 (((2 * k) + 1), 1, (upd g ((3000 * s9) + k) (nI x3)), (updN (updN eB k (eB ((2 * k) + 1))) ((2 * k) + 1) (eB k))) H locs ls ⟨(by show ((2 * k) + 1) < n; omega), (by show 1 = 0 ∨ 2 * ((2 * k) + 1) + 1 < n; omega), (by first | exact hi35_2 | exact gEz_u hi35_2 rfl hx3), (by first | exact hi35_3 | exact gFm_u hi35_3 (by omega) (by omega)), (by show 1 ≤ 1; exact Nat.le_of_ble_eq_true rfl), (by show gSi (gTo sf s9) eA (updN (updN eB k (eB ((2 * k) + 1))) ((2 * k) + 1) (eB k)) (upd g ((3000 * s9) + k) (nI x3)) (3000 * s9) n st ((2 * k) + 1) 1 x0; first | exact gSi_k hi35_5 hmx hcl | exact gSi_m hi35_5 (by omega) (by omega) (by omega) hmx hcg (by omega) rfl hB3), hP, hD, hS, lv_sub hl [0, 3, 1, 4, 5, 6, 7] rfl⟩ (by show 2 * (n - ((2 * k) + 1)) + 1 < 2 * (n - k) + zz; omega)
      · refine lv_aload_n hx hb dX9_sink_56 rfl (lv_at hl 4 rfl) ?_
        refine lv_iload_n hx hb dX9_sink_57 rfl (lv_at hl 5 rfl) ?_
        refine lv_aload_n hx hb dX9_sink_58 rfl (lv_at hl 4 rfl) ?_
        refine va_get (D := D) (ci := 9) (v := .ref a20) (C := RX9) (T := TX9) (N := 52) hx hb hts (fun _ h => List.mem_cons_of_mem _ (List.mem_append_left _ (List.mem_append_right _ h))) hown hK hP 0 rfl rfl 20 (by decide) (hts (.fieldLink RX9 69 "LitmusHallModel" "ends" "[I") (by decide +kernel)) (fun _ h9 => h9) rfl dX9_sink_59 ?_
        refine lv_sipush (v := 3000) hx hb dX9_sink_62 (by decide) ?_
        refine lv_iload_n hx hb dX9_sink_65 rfl (lv_at hl 5 rfl) ?_
        refine lv_imul hx hb dX9_sink_66 ?_
        refine gx_top (y := nI (3000 * s9)) (pk_mul 3000 s9) ?_
        refine lv_iload hx hb dX9_sink_67 (lv_at hl 0 rfl) ?_
        refine lv_iadd hx hb dX9_sink_69 ?_
        refine gx_top (y := nI ((3000 * s9) + ((2 * k) + 1))) (nI_add (3000 * s9) ((2 * k) + 1)) ?_
        refine lv_iconst (v := 1) hx hb dX9_sink_70 (by decide) ?_
        refine lv_iadd hx hb dX9_sink_71 ?_
        refine gx_top (y := nI (((3000 * s9) + ((2 * k) + 1)) + 1)) (nI_add ((3000 * s9) + ((2 * k) + 1)) 1) ?_
        obtain ⟨x1, hx1, ex1⟩ := hi35_2 (((2 * k) + 1) + 1) (by omega)
        have hB1 := gSi_x hi35_5 (i := ((2 * k) + 1) + 1) (by omega) (by omega) ex1 (by omega) hA3
        refine gy_ild (i := (((3000 * s9) + ((2 * k) + 1)) + 1)) hx hb hK hP 2 rfl (by omega) (by omega) dX9_sink_72 ?_
        refine gx_top (y := nI x1) (gy_at ex1 (by omega)) ?_
        refine lv_iload_n hx hb dX9_sink_73 rfl (lv_at hl 5 rfl) ?_
        refine lv_aload_n hx hb dX9_sink_74 rfl (lv_at hl 4 rfl) ?_
        refine va_get (D := D) (ci := 9) (v := .ref a20) (C := RX9) (T := TX9) (N := 52) hx hb hts (fun _ h => List.mem_cons_of_mem _ (List.mem_append_left _ (List.mem_append_right _ h))) hown hK hP 0 rfl rfl 20 (by decide) (hts (.fieldLink RX9 69 "LitmusHallModel" "ends" "[I") (by decide +kernel)) (fun _ h9 => h9) rfl dX9_sink_75 ?_
        refine lv_sipush (v := 3000) hx hb dX9_sink_78 (by decide) ?_
        refine lv_iload_n hx hb dX9_sink_81 rfl (lv_at hl 5 rfl) ?_
        refine lv_imul hx hb dX9_sink_82 ?_
        refine gx_top (y := nI (3000 * s9)) (pk_mul 3000 s9) ?_
        refine lv_iload hx hb dX9_sink_83 (lv_at hl 0 rfl) ?_
        refine lv_iadd hx hb dX9_sink_85 ?_
        refine gx_top (y := nI ((3000 * s9) + ((2 * k) + 1))) (nI_add (3000 * s9) ((2 * k) + 1)) ?_
        obtain ⟨x2, hx2, ex2⟩ := hi35_2 ((2 * k) + 1) (by omega)
        have hB2 := gSi_x hi35_5 (i := ((2 * k) + 1)) (by omega) (by omega) ex2 (by omega) hA3
        refine gy_ild (i := ((3000 * s9) + ((2 * k) + 1))) hx hb hK hP 2 rfl (by omega) (by omega) dX9_sink_86 ?_
        refine gx_top (y := nI x2) (gy_at ex2 (by omega)) ?_
        refine gx_goi (wc := [(h0, .inr (9, [v0, v1, v2, v3, v4, v5, v6, v7, v8, v9, v10, v11, .ref a12, v13, v14, v15, v16, v17, v18, v19, .ref a20, v21, v22, v23, v24, v25, v26, v27, v28, v29, v30, v31, v32, v33, v34, v35, v36, v37, v38, v39, v40, v41, v42, v43, v44, v45, v46, v47, v48, v49, v50, v51])), (a12, .inl (cI, 522000, .inl sf))]) (wr := [(a20, .inl (cI, 9000, .inl g))]) (va_runV (As := [.int (nI s9), .int (nI x1), .int (nI s9), .int (nI x2)]) (rest := []) ⟨hx, hb, hml, hown, hts⟩ (x_compare9 l D cI cB cZ h0 a12 (v0) (v1) (v2) (v3) (v4) (v5) (v6) (v7) (v8) (v9) (v10) (v11) (v13) (v14) (v15) (v16) (v17) (v18) (v19) (.ref a20) (v21) (v22) (v23) (v24) (v25) (v26) (v27) (v28) (v29) (v30) (v31) (v32) (v33) (v34) (v35) (v36) (v37) (v38) (v39) (v40) (v41) (v42) (v43) (v44) (v45) (v46) (v47) (v48) (v49) (v50) (v51) sf s9 x1 s9 x2 (by omega) (by omega) (by omega) (by omega) _) (cwV 4 hts gP_x_sink9__x_compare9 rfl rfl rfl (by decide +kernel) ⟨Nat.le_of_ble_eq_true rfl, Nat.le_of_ble_eq_true rfl⟩) (gx_preV (ci := 9) (q0 := 0) hK gN.nil hP hD [0, 1] rfl rfl rfl rfl) rfl rfl hl.1 rfl (lv_room (Nat.le_of_ble_eq_true rfl)) dX9_sink_87 ⟨Nat.le_of_ble_eq_true rfl, Nat.le_of_ble_eq_true rfl⟩) hP hD hS hA [0, 1] [2] rfl rfl rfl (by decide) (fun r1 w1 H locs hp hP hD hS => ?_)
        obtain ⟨e_20, hx87_0, h9, rfl⟩ := hp
        have h9 := h9.symm
        subst h9
        have hx87_0 : gCq e_20 (gTo sf s9 x1) (gTo sf s9 x2) := hx87_0
        refine lv_if_le (tgt := 96) hx hb dX9_sink_90 (by decide) (fun c_21 => ?_) (fun c_21 => ?_)
        · have hmx : ∀ d, (d = 2 * k + 1 ∨ d = 2 * k + 2) → d < n → gLq (gTo sf s9) (eB d) (eB ((2 * k) + 1)) := by first | exact gMx_a (by omega) (by omega) | exact gMx_b (by omega) (by have h9 := gCq_le hx87_0 c_21; rw [hB1, hB2] at h9; exact h9) | exact gMx_c (by omega) (by have h9 := gCq_gt hx87_0 c_21; rw [hB1, hB2] at h9; exact h9)
          refine lv_aload_n hx hb dX9_sink_96 rfl (lv_at hl 4 rfl) ?_
          refine lv_iload_n hx hb dX9_sink_97 rfl (lv_at hl 5 rfl) ?_
          refine lv_aload_n hx hb dX9_sink_98 rfl (lv_at hl 4 rfl) ?_
          refine va_get (D := D) (ci := 9) (v := .ref a20) (C := RX9) (T := TX9) (N := 52) hx hb hts (fun _ h => List.mem_cons_of_mem _ (List.mem_append_left _ (List.mem_append_right _ h))) hown hK hP 1 rfl rfl 20 (by decide) (hts (.fieldLink RX9 69 "LitmusHallModel" "ends" "[I") (by decide +kernel)) (fun _ h9 => h9) rfl dX9_sink_99 ?_
          refine lv_sipush (v := 3000) hx hb dX9_sink_102 (by decide) ?_
          refine lv_iload_n hx hb dX9_sink_105 rfl (lv_at hl 5 rfl) ?_
          refine lv_imul hx hb dX9_sink_106 ?_
          refine gx_top (y := nI (3000 * s9)) (pk_mul 3000 s9) ?_
          refine lv_iload hx hb dX9_sink_107 (lv_at hl 0 rfl) ?_
          refine lv_iadd hx hb dX9_sink_109 ?_
          refine gx_top (y := nI ((3000 * s9) + ((2 * k) + 1))) (nI_add (3000 * s9) ((2 * k) + 1)) ?_
          obtain ⟨x3, hx3, ex3⟩ := hi35_2 ((2 * k) + 1) (by omega)
          have hB3 := gSi_x hi35_5 (i := ((2 * k) + 1)) (by omega) (by omega) ex3 (by omega) hA3
          refine gy_ild (i := ((3000 * s9) + ((2 * k) + 1))) hx hb hK hP 0 rfl (by omega) (by omega) dX9_sink_110 ?_
          refine gx_top (y := nI x3) (gy_at ex3 (by omega)) ?_
          refine lv_iload_n hx hb dX9_sink_111 rfl (lv_at hl 5 rfl) ?_
          refine lv_iload hx hb dX9_sink_112 (lv_at hl 2 rfl) ?_
          refine gx_goi (wc := [(h0, .inr (9, [v0, v1, v2, v3, v4, v5, v6, v7, v8, v9, v10, v11, .ref a12, v13, v14, v15, v16, v17, v18, v19, .ref a20, v21, v22, v23, v24, v25, v26, v27, v28, v29, v30, v31, v32, v33, v34, v35, v36, v37, v38, v39, v40, v41, v42, v43, v44, v45, v46, v47, v48, v49, v50, v51])), (a12, .inl (cI, 522000, .inl sf))]) (wr := [(a20, .inl (cI, 9000, .inl g))]) (va_runV (As := [.int (nI s9), .int (nI x3), .int (nI s9), .int (nI x0)]) (rest := []) ⟨hx, hb, hml, hown, hts⟩ (x_compare9 l D cI cB cZ h0 a12 (v0) (v1) (v2) (v3) (v4) (v5) (v6) (v7) (v8) (v9) (v10) (v11) (v13) (v14) (v15) (v16) (v17) (v18) (v19) (.ref a20) (v21) (v22) (v23) (v24) (v25) (v26) (v27) (v28) (v29) (v30) (v31) (v32) (v33) (v34) (v35) (v36) (v37) (v38) (v39) (v40) (v41) (v42) (v43) (v44) (v45) (v46) (v47) (v48) (v49) (v50) (v51) sf s9 x3 s9 x0 (by omega) (by omega) (by omega) (by omega) _) (cwV 4 hts gP_x_sink9__x_compare9 rfl rfl rfl (by decide +kernel) ⟨Nat.le_of_ble_eq_true rfl, Nat.le_of_ble_eq_true rfl⟩) (gx_preV (ci := 9) (q0 := 0) hK gN.nil hP hD [1, 2] rfl rfl rfl rfl) rfl rfl hl.1 rfl (lv_room (Nat.le_of_ble_eq_true rfl)) dX9_sink_114 ⟨Nat.le_of_ble_eq_true rfl, Nat.le_of_ble_eq_true rfl⟩) hP hD hS hA [1, 2] [0] rfl rfl rfl (by decide) (fun r1 w1 H locs hp hP hD hS => ?_)
          obtain ⟨e_22, hx114_0, h9, rfl⟩ := hp
          have h9 := h9.symm
          subst h9
          have hx114_0 : gCq e_22 (gTo sf s9 x3) (gTo sf s9 x0) := hx114_0
          refine lv_if_le (tgt := 124) hx hb dX9_sink_117 (by decide) (fun c_23 => ?_) (fun c_23 => ?_)
          · have hcl : gLq (gTo sf s9) (eB ((2 * k) + 1)) (eB k) := by rw [hi35_5.2.1, ← hB3]; exact gCq_le hx114_0 c_23
            refine lv_iconst (v := 0) hx hb dX9_sink_124 (by decide) ?_
            refine lv_istore (lv' := [(6, .int 0), (7, .int (nI ((2 * k) + 1))), (5, .int (nI x0)), (4, .int (nI k)), (0, .ref h0), (1, .int (nI s9)), (2, .int (nI st)), (3, .int (nI n))]) hx hb dX9_sink_125 hl (by decide) rfl (fun ls hl => ?_)
            refine lv_iload hx hb dX9_sink_127 (lv_at hl 0 rfl) ?_
            refine lv_if_eq (tgt := 179) hx hb dX9_sink_129 (by decide) (fun _ => ?_) (fun c9 => absurd (by decide) c9)
            refine lv_goto (tgt := 35) hx hb dX9_sink_179 (by decide) ?_
            have hP : va_P D vwCl [(a20, .inl (cI, 9000, .inl g)), (h0, .inr (9, [v0, v1, v2, v3, v4, v5, v6, v7, v8, v9, v10, v11, .ref a12, v13, v14, v15, v16, v17, v18, v19, .ref a20, v21, v22, v23, v24, v25, v26, v27, v28, v29, v30, v31, v32, v33, v34, v35, v36, v37, v38, v39, v40, v41, v42, v43, v44, v45, v46, v47, v48, v49, v50, v51])), (a12, .inl (cI, 522000, .inl sf))] H := hP
            have hD : va_D A [(a20, .inl (cI, 9000, .inl g)), (h0, .inr (9, [v0, v1, v2, v3, v4, v5, v6, v7, v8, v9, v10, v11, .ref a12, v13, v14, v15, v16, v17, v18, v19, .ref a20, v21, v22, v23, v24, v25, v26, v27, v28, v29, v30, v31, v32, v33, v34, v35, v36, v37, v38, v39, v40, v41, v42, v43, v44, v45, v46, v47, v48, v49, v50, v51])), (a12, .inl (cI, 522000, .inl sf))] := hD
            have hP := hP.sub (ws' := [(h0, .inr (9, [v0, v1, v2, v3, v4, v5, v6, v7, v8, v9, v10, v11, .ref a12, v13, v14, v15, v16, v17, v18, v19, .ref a20, v21, v22, v23, v24, v25, v26, v27, v28, v29, v30, v31, v32, v33, v34, v35, v36, v37, v38, v39, v40, v41, v42, v43, v44, v45, v46, v47, v48, v49, v50, v51])), (a12, .inl (cI, 522000, .inl sf)), (a20, .inl (cI, 9000, .inl g))]) [1, 2, 0] rfl
            have hD := hD.sub (ws' := [(h0, .inr (9, [v0, v1, v2, v3, v4, v5, v6, v7, v8, v9, v10, v11, .ref a12, v13, v14, v15, v16, v17, v18, v19, .ref a20, v21, v22, v23, v24, v25, v26, v27, v28, v29, v30, v31, v32, v33, v34, v35, v36, v37, v38, v39, v40, v41, v42, v43, v44, v45, v46, v47, v48, v49, v50, v51])), (a12, .inl (cI, 522000, .inl sf)), (a20, .inl (cI, 9000, .inl g))]) [1, 2, 0] (by decide) rfl
            exact ih35 (k, 0, g, eB) H locs ls ⟨(by show k < n; omega), (by show 0 = 0 ∨ 2 * k + 1 < n; omega), (by first | exact hi35_2 | exact gEz_u hi35_2 rfl hx3), (by first | exact hi35_3 | exact gFm_u hi35_3 (by omega) (by omega)), (by show 0 ≤ 1; exact Nat.le_of_ble_eq_true rfl), (by show gSi (gTo sf s9) eA eB g (3000 * s9) n st k 0 x0; first | exact gSi_k hi35_5 hmx hcl | exact gSi_m hi35_5 (by omega) (by omega) (by omega) hmx hcg (by omega) rfl hB3), hP, hD, hS, lv_sub hl [0, 2, 3, 4, 5, 6, 7] rfl⟩ (by show 2 * (n - k) + 0 < 2 * (n - k) + zz; omega)
          · have hcg : gLq (gTo sf s9) (eB k) (eB ((2 * k) + 1)) := by rw [hi35_5.2.1, ← hB3]; exact gCq_gt hx114_0 c_23
            refine lv_iconst (v := 1) hx hb dX9_sink_120 (by decide) ?_
            refine lv_goto (tgt := 125) hx hb dX9_sink_121 (by decide) ?_
            refine lv_istore (lv' := [(6, .int 1), (7, .int (nI ((2 * k) + 1))), (5, .int (nI x0)), (4, .int (nI k)), (0, .ref h0), (1, .int (nI s9)), (2, .int (nI st)), (3, .int (nI n))]) hx hb dX9_sink_125 hl (by decide) rfl (fun ls hl => ?_)
            refine lv_iload hx hb dX9_sink_127 (lv_at hl 0 rfl) ?_
            refine lv_if_eq (tgt := 179) hx hb dX9_sink_129 (by decide) (fun c9 => absurd c9 (by decide)) (fun _ => ?_)
            refine lv_aload_n hx hb dX9_sink_132 rfl (lv_at hl 4 rfl) ?_
            refine va_get (D := D) (ci := 9) (v := .ref a20) (C := RX9) (T := TX9) (N := 52) hx hb hts (fun _ h => List.mem_cons_of_mem _ (List.mem_append_left _ (List.mem_append_right _ h))) hown hK hP 1 rfl rfl 20 (by decide) (hts (.fieldLink RX9 69 "LitmusHallModel" "ends" "[I") (by decide +kernel)) (fun _ h9 => h9) rfl dX9_sink_133 ?_
            refine lv_sipush (v := 3000) hx hb dX9_sink_136 (by decide) ?_
            refine lv_iload_n hx hb dX9_sink_139 rfl (lv_at hl 5 rfl) ?_
            refine lv_imul hx hb dX9_sink_140 ?_
            refine gx_top (y := nI (3000 * s9)) (pk_mul 3000 s9) ?_
            refine lv_iload hx hb dX9_sink_141 (lv_at hl 3 rfl) ?_
            refine lv_iadd hx hb dX9_sink_143 ?_
            refine gx_top (y := nI ((3000 * s9) + k)) (nI_add (3000 * s9) k) ?_
            refine lv_aload_n hx hb dX9_sink_144 rfl (lv_at hl 4 rfl) ?_
            refine va_get (D := D) (ci := 9) (v := .ref a20) (C := RX9) (T := TX9) (N := 52) hx hb hts (fun _ h => List.mem_cons_of_mem _ (List.mem_append_left _ (List.mem_append_right _ h))) hown hK hP 1 rfl rfl 20 (by decide) (hts (.fieldLink RX9 69 "LitmusHallModel" "ends" "[I") (by decide +kernel)) (fun _ h9 => h9) rfl dX9_sink_145 ?_
            refine lv_sipush (v := 3000) hx hb dX9_sink_148 (by decide) ?_
            refine lv_iload_n hx hb dX9_sink_151 rfl (lv_at hl 5 rfl) ?_
            refine lv_imul hx hb dX9_sink_152 ?_
            refine gx_top (y := nI (3000 * s9)) (pk_mul 3000 s9) ?_
            refine lv_iload hx hb dX9_sink_153 (lv_at hl 1 rfl) ?_
            refine lv_iadd hx hb dX9_sink_155 ?_
            refine gx_top (y := nI ((3000 * s9) + ((2 * k) + 1))) (nI_add (3000 * s9) ((2 * k) + 1)) ?_
            refine gy_ild (i := ((3000 * s9) + ((2 * k) + 1))) hx hb hK hP 0 rfl (by omega) (by omega) dX9_sink_156 ?_
            refine gx_top (y := nI x3) (gy_at ex3 (by omega)) ?_
            refine gy_ist (i := ((3000 * s9) + k)) hx hb hK hP hD hS 0 rfl (by omega) (by omega) dX9_sink_157 (fun H locs hP hD hS => ?_)
            have hP : va_P D vwCl [(a20, .inl (cI, 9000, .inl (upd g ((3000 * s9) + k) (nI x3)))), (h0, .inr (9, [v0, v1, v2, v3, v4, v5, v6, v7, v8, v9, v10, v11, .ref a12, v13, v14, v15, v16, v17, v18, v19, .ref a20, v21, v22, v23, v24, v25, v26, v27, v28, v29, v30, v31, v32, v33, v34, v35, v36, v37, v38, v39, v40, v41, v42, v43, v44, v45, v46, v47, v48, v49, v50, v51])), (a12, .inl (cI, 522000, .inl sf))] H := hP
            have hD : va_D A [(a20, .inl (cI, 9000, .inl (upd g ((3000 * s9) + k) (nI x3)))), (h0, .inr (9, [v0, v1, v2, v3, v4, v5, v6, v7, v8, v9, v10, v11, .ref a12, v13, v14, v15, v16, v17, v18, v19, .ref a20, v21, v22, v23, v24, v25, v26, v27, v28, v29, v30, v31, v32, v33, v34, v35, v36, v37, v38, v39, v40, v41, v42, v43, v44, v45, v46, v47, v48, v49, v50, v51])), (a12, .inl (cI, 522000, .inl sf))] := hD
            refine lv_iload hx hb dX9_sink_158 (lv_at hl 1 rfl) ?_
            refine lv_istore (lv' := [(4, .int (nI ((2 * k) + 1))), (6, .int 1), (7, .int (nI ((2 * k) + 1))), (5, .int (nI x0)), (0, .ref h0), (1, .int (nI s9)), (2, .int (nI st)), (3, .int (nI n))]) hx hb dX9_sink_160 hl (by decide) rfl (fun ls hl => ?_)
            refine lv_iconst (v := 2) hx hb dX9_sink_162 (by decide) ?_
            refine lv_iload hx hb dX9_sink_163 (lv_at hl 0 rfl) ?_
            refine lv_imul hx hb dX9_sink_165 ?_
            refine gx_top (y := nI (2 * ((2 * k) + 1))) (pk_mul 2 ((2 * k) + 1)) ?_
            refine lv_iconst (v := 1) hx hb dX9_sink_166 (by decide) ?_
            refine lv_iadd hx hb dX9_sink_167 ?_
            refine gx_top (y := nI ((2 * ((2 * k) + 1)) + 1)) (nI_add (2 * ((2 * k) + 1)) 1) ?_
            refine lv_iload_n hx hb dX9_sink_168 rfl (lv_at hl 7 rfl) ?_
            refine gy_ge (a := ((2 * ((2 * k) + 1)) + 1)) (b := n) (tgt := 176) hx hb (by omega) (by omega) dX9_sink_169 (by decide) (fun c_24 => ?_) (fun c_24 => ?_)
            · refine lv_iconst (v := 0) hx hb dX9_sink_176 (by decide) ?_
              refine lv_istore (lv' := [(6, .int 0), (4, .int (nI ((2 * k) + 1))), (7, .int (nI ((2 * k) + 1))), (5, .int (nI x0)), (0, .ref h0), (1, .int (nI s9)), (2, .int (nI st)), (3, .int (nI n))]) hx hb dX9_sink_177 hl (by decide) rfl (fun ls hl => ?_)
              refine lv_goto (tgt := 35) hx hb dX9_sink_179 (by decide) ?_
              have hP := hP.sub (ws' := [(h0, .inr (9, [v0, v1, v2, v3, v4, v5, v6, v7, v8, v9, v10, v11, .ref a12, v13, v14, v15, v16, v17, v18, v19, .ref a20, v21, v22, v23, v24, v25, v26, v27, v28, v29, v30, v31, v32, v33, v34, v35, v36, v37, v38, v39, v40, v41, v42, v43, v44, v45, v46, v47, v48, v49, v50, v51])), (a12, .inl (cI, 522000, .inl sf)), (a20, .inl (cI, 9000, .inl (upd g ((3000 * s9) + k) (nI x3))))]) [1, 2, 0] rfl
              have hD := hD.sub (ws' := [(h0, .inr (9, [v0, v1, v2, v3, v4, v5, v6, v7, v8, v9, v10, v11, .ref a12, v13, v14, v15, v16, v17, v18, v19, .ref a20, v21, v22, v23, v24, v25, v26, v27, v28, v29, v30, v31, v32, v33, v34, v35, v36, v37, v38, v39, v40, v41, v42, v43, v44, v45, v46, v47, v48, v49, v50, v51])), (a12, .inl (cI, 522000, .inl sf)), (a20, .inl (cI, 9000, .inl (upd g ((3000 * s9) + k) (nI x3))))]) [1, 2, 0] (by decide) rfl
              exact ih35 (((2 * k) + 1), 0, (upd g ((3000 * s9) + k) (nI x3)), (updN (updN eB k (eB ((2 * k) + 1))) ((2 * k) + 1) (eB k))) H locs ls ⟨(by show ((2 * k) + 1) < n; omega), (by show 0 = 0 ∨ 2 * ((2 * k) + 1) + 1 < n; omega), (by first | exact hi35_2 | exact gEz_u hi35_2 rfl hx3), (by first | exact hi35_3 | exact gFm_u hi35_3 (by omega) (by omega)), (by show 0 ≤ 1; exact Nat.le_of_ble_eq_true rfl), (by show gSi (gTo sf s9) eA (updN (updN eB k (eB ((2 * k) + 1))) ((2 * k) + 1) (eB k)) (upd g ((3000 * s9) + k) (nI x3)) (3000 * s9) n st ((2 * k) + 1) 0 x0; first | exact gSi_k hi35_5 hmx hcl | exact gSi_m hi35_5 (by omega) (by omega) (by omega) hmx hcg (by omega) rfl hB3), hP, hD, hS, lv_sub hl [0, 3, 1, 4, 5, 6, 7] rfl⟩ (by show 2 * (n - ((2 * k) + 1)) + 0 < 2 * (n - k) + zz; omega)
            · refine lv_iconst (v := 1) hx hb dX9_sink_172 (by decide) ?_
              refine lv_goto (tgt := 177) hx hb dX9_sink_173 (by decide) ?_
              refine lv_istore (lv' := [(6, .int 1), (4, .int (nI ((2 * k) + 1))), (7, .int (nI ((2 * k) + 1))), (5, .int (nI x0)), (0, .ref h0), (1, .int (nI s9)), (2, .int (nI st)), (3, .int (nI n))]) hx hb dX9_sink_177 hl (by decide) rfl (fun ls hl => ?_)
              refine lv_goto (tgt := 35) hx hb dX9_sink_179 (by decide) ?_
              have hP := hP.sub (ws' := [(h0, .inr (9, [v0, v1, v2, v3, v4, v5, v6, v7, v8, v9, v10, v11, .ref a12, v13, v14, v15, v16, v17, v18, v19, .ref a20, v21, v22, v23, v24, v25, v26, v27, v28, v29, v30, v31, v32, v33, v34, v35, v36, v37, v38, v39, v40, v41, v42, v43, v44, v45, v46, v47, v48, v49, v50, v51])), (a12, .inl (cI, 522000, .inl sf)), (a20, .inl (cI, 9000, .inl (upd g ((3000 * s9) + k) (nI x3))))]) [1, 2, 0] rfl
              have hD := hD.sub (ws' := [(h0, .inr (9, [v0, v1, v2, v3, v4, v5, v6, v7, v8, v9, v10, v11, .ref a12, v13, v14, v15, v16, v17, v18, v19, .ref a20, v21, v22, v23, v24, v25, v26, v27, v28, v29, v30, v31, v32, v33, v34, v35, v36, v37, v38, v39, v40, v41, v42, v43, v44, v45, v46, v47, v48, v49, v50, v51])), (a12, .inl (cI, 522000, .inl sf)), (a20, .inl (cI, 9000, .inl (upd g ((3000 * s9) + k) (nI x3))))]) [1, 2, 0] (by decide) rfl
              exact ih35 (((2 * k) + 1), 1, (upd g ((3000 * s9) + k) (nI x3)), (updN (updN eB k (eB ((2 * k) + 1))) ((2 * k) + 1) (eB k))) H locs ls ⟨(by show ((2 * k) + 1) < n; omega), (by show 1 = 0 ∨ 2 * ((2 * k) + 1) + 1 < n; omega), (by first | exact hi35_2 | exact gEz_u hi35_2 rfl hx3), (by first | exact hi35_3 | exact gFm_u hi35_3 (by omega) (by omega)), (by show 1 ≤ 1; exact Nat.le_of_ble_eq_true rfl), (by show gSi (gTo sf s9) eA (updN (updN eB k (eB ((2 * k) + 1))) ((2 * k) + 1) (eB k)) (upd g ((3000 * s9) + k) (nI x3)) (3000 * s9) n st ((2 * k) + 1) 1 x0; first | exact gSi_k hi35_5 hmx hcl | exact gSi_m hi35_5 (by omega) (by omega) (by omega) hmx hcg (by omega) rfl hB3), hP, hD, hS, lv_sub hl [0, 3, 1, 4, 5, 6, 7] rfl⟩ (by show 2 * (n - ((2 * k) + 1)) + 1 < 2 * (n - k) + zz; omega)
        · refine lv_iinc (v := nI (((2 * k) + 1) + 1)) (lv' := [(7, .int (nI (((2 * k) + 1) + 1))), (6, .int (nI zz)), (5, .int (nI x0)), (4, .int (nI k)), (0, .ref h0), (1, .int (nI s9)), (2, .int (nI st)), (3, .int (nI n))]) hx hb dX9_sink_93 hl (k := 0) rfl (nI_add ((2 * k) + 1) 1) (by decide) rfl (fun ls hl => ?_)
          have hmx : ∀ d, (d = 2 * k + 1 ∨ d = 2 * k + 2) → d < n → gLq (gTo sf s9) (eB d) (eB (((2 * k) + 1) + 1)) := by first | exact gMx_a (by omega) (by omega) | exact gMx_b (by omega) (by have h9 := gCq_le hx87_0 c_21; rw [hB1, hB2] at h9; exact h9) | exact gMx_c (by omega) (by have h9 := gCq_gt hx87_0 c_21; rw [hB1, hB2] at h9; exact h9)
          refine lv_aload_n hx hb dX9_sink_96 rfl (lv_at hl 4 rfl) ?_
          refine lv_iload_n hx hb dX9_sink_97 rfl (lv_at hl 5 rfl) ?_
          refine lv_aload_n hx hb dX9_sink_98 rfl (lv_at hl 4 rfl) ?_
          refine va_get (D := D) (ci := 9) (v := .ref a20) (C := RX9) (T := TX9) (N := 52) hx hb hts (fun _ h => List.mem_cons_of_mem _ (List.mem_append_left _ (List.mem_append_right _ h))) hown hK hP 1 rfl rfl 20 (by decide) (hts (.fieldLink RX9 69 "LitmusHallModel" "ends" "[I") (by decide +kernel)) (fun _ h9 => h9) rfl dX9_sink_99 ?_
          refine lv_sipush (v := 3000) hx hb dX9_sink_102 (by decide) ?_
          refine lv_iload_n hx hb dX9_sink_105 rfl (lv_at hl 5 rfl) ?_
          refine lv_imul hx hb dX9_sink_106 ?_
          refine gx_top (y := nI (3000 * s9)) (pk_mul 3000 s9) ?_
          refine lv_iload hx hb dX9_sink_107 (lv_at hl 0 rfl) ?_
          refine lv_iadd hx hb dX9_sink_109 ?_
          refine gx_top (y := nI ((3000 * s9) + (((2 * k) + 1) + 1))) (nI_add (3000 * s9) (((2 * k) + 1) + 1)) ?_
          obtain ⟨x3, hx3, ex3⟩ := hi35_2 (((2 * k) + 1) + 1) (by omega)
          have hB3 := gSi_x hi35_5 (i := (((2 * k) + 1) + 1)) (by omega) (by omega) ex3 (by omega) hA3
          refine gy_ild (i := ((3000 * s9) + (((2 * k) + 1) + 1))) hx hb hK hP 0 rfl (by omega) (by omega) dX9_sink_110 ?_
          refine gx_top (y := nI x3) (gy_at ex3 (by omega)) ?_
          refine lv_iload_n hx hb dX9_sink_111 rfl (lv_at hl 5 rfl) ?_
          refine lv_iload hx hb dX9_sink_112 (lv_at hl 2 rfl) ?_
          refine gx_goi (wc := [(h0, .inr (9, [v0, v1, v2, v3, v4, v5, v6, v7, v8, v9, v10, v11, .ref a12, v13, v14, v15, v16, v17, v18, v19, .ref a20, v21, v22, v23, v24, v25, v26, v27, v28, v29, v30, v31, v32, v33, v34, v35, v36, v37, v38, v39, v40, v41, v42, v43, v44, v45, v46, v47, v48, v49, v50, v51])), (a12, .inl (cI, 522000, .inl sf))]) (wr := [(a20, .inl (cI, 9000, .inl g))]) (va_runV (As := [.int (nI s9), .int (nI x3), .int (nI s9), .int (nI x0)]) (rest := []) ⟨hx, hb, hml, hown, hts⟩ (x_compare9 l D cI cB cZ h0 a12 (v0) (v1) (v2) (v3) (v4) (v5) (v6) (v7) (v8) (v9) (v10) (v11) (v13) (v14) (v15) (v16) (v17) (v18) (v19) (.ref a20) (v21) (v22) (v23) (v24) (v25) (v26) (v27) (v28) (v29) (v30) (v31) (v32) (v33) (v34) (v35) (v36) (v37) (v38) (v39) (v40) (v41) (v42) (v43) (v44) (v45) (v46) (v47) (v48) (v49) (v50) (v51) sf s9 x3 s9 x0 (by omega) (by omega) (by omega) (by omega) _) (cwV 4 hts gP_x_sink9__x_compare9 rfl rfl rfl (by decide +kernel) ⟨Nat.le_of_ble_eq_true rfl, Nat.le_of_ble_eq_true rfl⟩) (gx_preV (ci := 9) (q0 := 0) hK gN.nil hP hD [1, 2] rfl rfl rfl rfl) rfl rfl hl.1 rfl (lv_room (Nat.le_of_ble_eq_true rfl)) dX9_sink_114 ⟨Nat.le_of_ble_eq_true rfl, Nat.le_of_ble_eq_true rfl⟩) hP hD hS hA [1, 2] [0] rfl rfl rfl (by decide) (fun r1 w1 H locs hp hP hD hS => ?_)
          obtain ⟨e_25, hx114_0, h9, rfl⟩ := hp
          have h9 := h9.symm
          subst h9
          have hx114_0 : gCq e_25 (gTo sf s9 x3) (gTo sf s9 x0) := hx114_0
          refine lv_if_le (tgt := 124) hx hb dX9_sink_117 (by decide) (fun c_26 => ?_) (fun c_26 => ?_)
          · have hcl : gLq (gTo sf s9) (eB (((2 * k) + 1) + 1)) (eB k) := by rw [hi35_5.2.1, ← hB3]; exact gCq_le hx114_0 c_26
            refine lv_iconst (v := 0) hx hb dX9_sink_124 (by decide) ?_
            refine lv_istore (lv' := [(6, .int 0), (7, .int (nI (((2 * k) + 1) + 1))), (5, .int (nI x0)), (4, .int (nI k)), (0, .ref h0), (1, .int (nI s9)), (2, .int (nI st)), (3, .int (nI n))]) hx hb dX9_sink_125 hl (by decide) rfl (fun ls hl => ?_)
            refine lv_iload hx hb dX9_sink_127 (lv_at hl 0 rfl) ?_
            refine lv_if_eq (tgt := 179) hx hb dX9_sink_129 (by decide) (fun _ => ?_) (fun c9 => absurd (by decide) c9)
            refine lv_goto (tgt := 35) hx hb dX9_sink_179 (by decide) ?_
            have hP : va_P D vwCl [(a20, .inl (cI, 9000, .inl g)), (h0, .inr (9, [v0, v1, v2, v3, v4, v5, v6, v7, v8, v9, v10, v11, .ref a12, v13, v14, v15, v16, v17, v18, v19, .ref a20, v21, v22, v23, v24, v25, v26, v27, v28, v29, v30, v31, v32, v33, v34, v35, v36, v37, v38, v39, v40, v41, v42, v43, v44, v45, v46, v47, v48, v49, v50, v51])), (a12, .inl (cI, 522000, .inl sf))] H := hP
            have hD : va_D A [(a20, .inl (cI, 9000, .inl g)), (h0, .inr (9, [v0, v1, v2, v3, v4, v5, v6, v7, v8, v9, v10, v11, .ref a12, v13, v14, v15, v16, v17, v18, v19, .ref a20, v21, v22, v23, v24, v25, v26, v27, v28, v29, v30, v31, v32, v33, v34, v35, v36, v37, v38, v39, v40, v41, v42, v43, v44, v45, v46, v47, v48, v49, v50, v51])), (a12, .inl (cI, 522000, .inl sf))] := hD
            have hP := hP.sub (ws' := [(h0, .inr (9, [v0, v1, v2, v3, v4, v5, v6, v7, v8, v9, v10, v11, .ref a12, v13, v14, v15, v16, v17, v18, v19, .ref a20, v21, v22, v23, v24, v25, v26, v27, v28, v29, v30, v31, v32, v33, v34, v35, v36, v37, v38, v39, v40, v41, v42, v43, v44, v45, v46, v47, v48, v49, v50, v51])), (a12, .inl (cI, 522000, .inl sf)), (a20, .inl (cI, 9000, .inl g))]) [1, 2, 0] rfl
            have hD := hD.sub (ws' := [(h0, .inr (9, [v0, v1, v2, v3, v4, v5, v6, v7, v8, v9, v10, v11, .ref a12, v13, v14, v15, v16, v17, v18, v19, .ref a20, v21, v22, v23, v24, v25, v26, v27, v28, v29, v30, v31, v32, v33, v34, v35, v36, v37, v38, v39, v40, v41, v42, v43, v44, v45, v46, v47, v48, v49, v50, v51])), (a12, .inl (cI, 522000, .inl sf)), (a20, .inl (cI, 9000, .inl g))]) [1, 2, 0] (by decide) rfl
            exact ih35 (k, 0, g, eB) H locs ls ⟨(by show k < n; omega), (by show 0 = 0 ∨ 2 * k + 1 < n; omega), (by first | exact hi35_2 | exact gEz_u hi35_2 rfl hx3), (by first | exact hi35_3 | exact gFm_u hi35_3 (by omega) (by omega)), (by show 0 ≤ 1; exact Nat.le_of_ble_eq_true rfl), (by show gSi (gTo sf s9) eA eB g (3000 * s9) n st k 0 x0; first | exact gSi_k hi35_5 hmx hcl | exact gSi_m hi35_5 (by omega) (by omega) (by omega) hmx hcg (by omega) rfl hB3), hP, hD, hS, lv_sub hl [0, 2, 3, 4, 5, 6, 7] rfl⟩ (by show 2 * (n - k) + 0 < 2 * (n - k) + zz; omega)
          · have hcg : gLq (gTo sf s9) (eB k) (eB (((2 * k) + 1) + 1)) := by rw [hi35_5.2.1, ← hB3]; exact gCq_gt hx114_0 c_26
            refine lv_iconst (v := 1) hx hb dX9_sink_120 (by decide) ?_
            refine lv_goto (tgt := 125) hx hb dX9_sink_121 (by decide) ?_
            refine lv_istore (lv' := [(6, .int 1), (7, .int (nI (((2 * k) + 1) + 1))), (5, .int (nI x0)), (4, .int (nI k)), (0, .ref h0), (1, .int (nI s9)), (2, .int (nI st)), (3, .int (nI n))]) hx hb dX9_sink_125 hl (by decide) rfl (fun ls hl => ?_)
            refine lv_iload hx hb dX9_sink_127 (lv_at hl 0 rfl) ?_
            refine lv_if_eq (tgt := 179) hx hb dX9_sink_129 (by decide) (fun c9 => absurd c9 (by decide)) (fun _ => ?_)
            refine lv_aload_n hx hb dX9_sink_132 rfl (lv_at hl 4 rfl) ?_
            refine va_get (D := D) (ci := 9) (v := .ref a20) (C := RX9) (T := TX9) (N := 52) hx hb hts (fun _ h => List.mem_cons_of_mem _ (List.mem_append_left _ (List.mem_append_right _ h))) hown hK hP 1 rfl rfl 20 (by decide) (hts (.fieldLink RX9 69 "LitmusHallModel" "ends" "[I") (by decide +kernel)) (fun _ h9 => h9) rfl dX9_sink_133 ?_
            refine lv_sipush (v := 3000) hx hb dX9_sink_136 (by decide) ?_
            refine lv_iload_n hx hb dX9_sink_139 rfl (lv_at hl 5 rfl) ?_
            refine lv_imul hx hb dX9_sink_140 ?_
            refine gx_top (y := nI (3000 * s9)) (pk_mul 3000 s9) ?_
            refine lv_iload hx hb dX9_sink_141 (lv_at hl 3 rfl) ?_
            refine lv_iadd hx hb dX9_sink_143 ?_
            refine gx_top (y := nI ((3000 * s9) + k)) (nI_add (3000 * s9) k) ?_
            refine lv_aload_n hx hb dX9_sink_144 rfl (lv_at hl 4 rfl) ?_
            refine va_get (D := D) (ci := 9) (v := .ref a20) (C := RX9) (T := TX9) (N := 52) hx hb hts (fun _ h => List.mem_cons_of_mem _ (List.mem_append_left _ (List.mem_append_right _ h))) hown hK hP 1 rfl rfl 20 (by decide) (hts (.fieldLink RX9 69 "LitmusHallModel" "ends" "[I") (by decide +kernel)) (fun _ h9 => h9) rfl dX9_sink_145 ?_
            refine lv_sipush (v := 3000) hx hb dX9_sink_148 (by decide) ?_
            refine lv_iload_n hx hb dX9_sink_151 rfl (lv_at hl 5 rfl) ?_
            refine lv_imul hx hb dX9_sink_152 ?_
            refine gx_top (y := nI (3000 * s9)) (pk_mul 3000 s9) ?_
            refine lv_iload hx hb dX9_sink_153 (lv_at hl 1 rfl) ?_
            refine lv_iadd hx hb dX9_sink_155 ?_
            refine gx_top (y := nI ((3000 * s9) + (((2 * k) + 1) + 1))) (nI_add (3000 * s9) (((2 * k) + 1) + 1)) ?_
            refine gy_ild (i := ((3000 * s9) + (((2 * k) + 1) + 1))) hx hb hK hP 0 rfl (by omega) (by omega) dX9_sink_156 ?_
            refine gx_top (y := nI x3) (gy_at ex3 (by omega)) ?_
            refine gy_ist (i := ((3000 * s9) + k)) hx hb hK hP hD hS 0 rfl (by omega) (by omega) dX9_sink_157 (fun H locs hP hD hS => ?_)
            have hP : va_P D vwCl [(a20, .inl (cI, 9000, .inl (upd g ((3000 * s9) + k) (nI x3)))), (h0, .inr (9, [v0, v1, v2, v3, v4, v5, v6, v7, v8, v9, v10, v11, .ref a12, v13, v14, v15, v16, v17, v18, v19, .ref a20, v21, v22, v23, v24, v25, v26, v27, v28, v29, v30, v31, v32, v33, v34, v35, v36, v37, v38, v39, v40, v41, v42, v43, v44, v45, v46, v47, v48, v49, v50, v51])), (a12, .inl (cI, 522000, .inl sf))] H := hP
            have hD : va_D A [(a20, .inl (cI, 9000, .inl (upd g ((3000 * s9) + k) (nI x3)))), (h0, .inr (9, [v0, v1, v2, v3, v4, v5, v6, v7, v8, v9, v10, v11, .ref a12, v13, v14, v15, v16, v17, v18, v19, .ref a20, v21, v22, v23, v24, v25, v26, v27, v28, v29, v30, v31, v32, v33, v34, v35, v36, v37, v38, v39, v40, v41, v42, v43, v44, v45, v46, v47, v48, v49, v50, v51])), (a12, .inl (cI, 522000, .inl sf))] := hD
            refine lv_iload hx hb dX9_sink_158 (lv_at hl 1 rfl) ?_
            refine lv_istore (lv' := [(4, .int (nI (((2 * k) + 1) + 1))), (6, .int 1), (7, .int (nI (((2 * k) + 1) + 1))), (5, .int (nI x0)), (0, .ref h0), (1, .int (nI s9)), (2, .int (nI st)), (3, .int (nI n))]) hx hb dX9_sink_160 hl (by decide) rfl (fun ls hl => ?_)
            refine lv_iconst (v := 2) hx hb dX9_sink_162 (by decide) ?_
            refine lv_iload hx hb dX9_sink_163 (lv_at hl 0 rfl) ?_
            refine lv_imul hx hb dX9_sink_165 ?_
            refine gx_top (y := nI (2 * (((2 * k) + 1) + 1))) (pk_mul 2 (((2 * k) + 1) + 1)) ?_
            refine lv_iconst (v := 1) hx hb dX9_sink_166 (by decide) ?_
            refine lv_iadd hx hb dX9_sink_167 ?_
            refine gx_top (y := nI ((2 * (((2 * k) + 1) + 1)) + 1)) (nI_add (2 * (((2 * k) + 1) + 1)) 1) ?_
            refine lv_iload_n hx hb dX9_sink_168 rfl (lv_at hl 7 rfl) ?_
            refine gy_ge (a := ((2 * (((2 * k) + 1) + 1)) + 1)) (b := n) (tgt := 176) hx hb (by omega) (by omega) dX9_sink_169 (by decide) (fun c_27 => ?_) (fun c_27 => ?_)
            · refine lv_iconst (v := 0) hx hb dX9_sink_176 (by decide) ?_
              refine lv_istore (lv' := [(6, .int 0), (4, .int (nI (((2 * k) + 1) + 1))), (7, .int (nI (((2 * k) + 1) + 1))), (5, .int (nI x0)), (0, .ref h0), (1, .int (nI s9)), (2, .int (nI st)), (3, .int (nI n))]) hx hb dX9_sink_177 hl (by decide) rfl (fun ls hl => ?_)
              refine lv_goto (tgt := 35) hx hb dX9_sink_179 (by decide) ?_
              have hP := hP.sub (ws' := [(h0, .inr (9, [v0, v1, v2, v3, v4, v5, v6, v7, v8, v9, v10, v11, .ref a12, v13, v14, v15, v16, v17, v18, v19, .ref a20, v21, v22, v23, v24, v25, v26, v27, v28, v29, v30, v31, v32, v33, v34, v35, v36, v37, v38, v39, v40, v41, v42, v43, v44, v45, v46, v47, v48, v49, v50, v51])), (a12, .inl (cI, 522000, .inl sf)), (a20, .inl (cI, 9000, .inl (upd g ((3000 * s9) + k) (nI x3))))]) [1, 2, 0] rfl
              have hD := hD.sub (ws' := [(h0, .inr (9, [v0, v1, v2, v3, v4, v5, v6, v7, v8, v9, v10, v11, .ref a12, v13, v14, v15, v16, v17, v18, v19, .ref a20, v21, v22, v23, v24, v25, v26, v27, v28, v29, v30, v31, v32, v33, v34, v35, v36, v37, v38, v39, v40, v41, v42, v43, v44, v45, v46, v47, v48, v49, v50, v51])), (a12, .inl (cI, 522000, .inl sf)), (a20, .inl (cI, 9000, .inl (upd g ((3000 * s9) + k) (nI x3))))]) [1, 2, 0] (by decide) rfl
              exact ih35 ((((2 * k) + 1) + 1), 0, (upd g ((3000 * s9) + k) (nI x3)), (updN (updN eB k (eB (((2 * k) + 1) + 1))) (((2 * k) + 1) + 1) (eB k))) H locs ls ⟨(by show (((2 * k) + 1) + 1) < n; omega), (by show 0 = 0 ∨ 2 * (((2 * k) + 1) + 1) + 1 < n; omega), (by first | exact hi35_2 | exact gEz_u hi35_2 rfl hx3), (by first | exact hi35_3 | exact gFm_u hi35_3 (by omega) (by omega)), (by show 0 ≤ 1; exact Nat.le_of_ble_eq_true rfl), (by show gSi (gTo sf s9) eA (updN (updN eB k (eB (((2 * k) + 1) + 1))) (((2 * k) + 1) + 1) (eB k)) (upd g ((3000 * s9) + k) (nI x3)) (3000 * s9) n st (((2 * k) + 1) + 1) 0 x0; first | exact gSi_k hi35_5 hmx hcl | exact gSi_m hi35_5 (by omega) (by omega) (by omega) hmx hcg (by omega) rfl hB3), hP, hD, hS, lv_sub hl [0, 3, 1, 4, 5, 6, 7] rfl⟩ (by show 2 * (n - (((2 * k) + 1) + 1)) + 0 < 2 * (n - k) + zz; omega)
            · refine lv_iconst (v := 1) hx hb dX9_sink_172 (by decide) ?_
              refine lv_goto (tgt := 177) hx hb dX9_sink_173 (by decide) ?_
              refine lv_istore (lv' := [(6, .int 1), (4, .int (nI (((2 * k) + 1) + 1))), (7, .int (nI (((2 * k) + 1) + 1))), (5, .int (nI x0)), (0, .ref h0), (1, .int (nI s9)), (2, .int (nI st)), (3, .int (nI n))]) hx hb dX9_sink_177 hl (by decide) rfl (fun ls hl => ?_)
              refine lv_goto (tgt := 35) hx hb dX9_sink_179 (by decide) ?_
              have hP := hP.sub (ws' := [(h0, .inr (9, [v0, v1, v2, v3, v4, v5, v6, v7, v8, v9, v10, v11, .ref a12, v13, v14, v15, v16, v17, v18, v19, .ref a20, v21, v22, v23, v24, v25, v26, v27, v28, v29, v30, v31, v32, v33, v34, v35, v36, v37, v38, v39, v40, v41, v42, v43, v44, v45, v46, v47, v48, v49, v50, v51])), (a12, .inl (cI, 522000, .inl sf)), (a20, .inl (cI, 9000, .inl (upd g ((3000 * s9) + k) (nI x3))))]) [1, 2, 0] rfl
              have hD := hD.sub (ws' := [(h0, .inr (9, [v0, v1, v2, v3, v4, v5, v6, v7, v8, v9, v10, v11, .ref a12, v13, v14, v15, v16, v17, v18, v19, .ref a20, v21, v22, v23, v24, v25, v26, v27, v28, v29, v30, v31, v32, v33, v34, v35, v36, v37, v38, v39, v40, v41, v42, v43, v44, v45, v46, v47, v48, v49, v50, v51])), (a12, .inl (cI, 522000, .inl sf)), (a20, .inl (cI, 9000, .inl (upd g ((3000 * s9) + k) (nI x3))))]) [1, 2, 0] (by decide) rfl
              exact ih35 ((((2 * k) + 1) + 1), 1, (upd g ((3000 * s9) + k) (nI x3)), (updN (updN eB k (eB (((2 * k) + 1) + 1))) (((2 * k) + 1) + 1) (eB k))) H locs ls ⟨(by show (((2 * k) + 1) + 1) < n; omega), (by show 1 = 0 ∨ 2 * (((2 * k) + 1) + 1) + 1 < n; omega), (by first | exact hi35_2 | exact gEz_u hi35_2 rfl hx3), (by first | exact hi35_3 | exact gFm_u hi35_3 (by omega) (by omega)), (by show 1 ≤ 1; exact Nat.le_of_ble_eq_true rfl), (by show gSi (gTo sf s9) eA (updN (updN eB k (eB (((2 * k) + 1) + 1))) (((2 * k) + 1) + 1) (eB k)) (upd g ((3000 * s9) + k) (nI x3)) (3000 * s9) n st (((2 * k) + 1) + 1) 1 x0; first | exact gSi_k hi35_5 hmx hcl | exact gSi_m hi35_5 (by omega) (by omega) (by omega) hmx hcg (by omega) rfl hB3), hP, hD, hS, lv_sub hl [0, 3, 1, 4, 5, 6, 7] rfl⟩ (by show 2 * (n - (((2 * k) + 1) + 1)) + 1 < 2 * (n - k) + zz; omega)
def wsP_x_sortEnds9 : List Cond := .code yX9_sortEnds cX9_sortEnds 5 none :: (([.fieldLink RX9 72 "LitmusHallModel" "endMany" "[I", .fieldLink RX9 69 "LitmusHallModel" "ends" "[I", .methodLink RX9 331 yX9_sink, .instanceMethod yX9_sink, .selects RX9 yX9_sink yX9_sink, .initialized RX9] ++ wsX90) ++ (wsP_x_sink9 ++ []))
theorem gW_x_sortEnds9 : wsP_x_sortEnds9.all goodWord = true := by unfold wsP_x_sortEnds9; exact gw_mk (by decide +kernel) (gw_app gW_x_sink9 rfl)
set_option maxRecDepth 20000 in
theorem gP_x_sortEnds9__x_sink9 : GoodIn wsP_x_sortEnds9 (wsV RX9 331 RX9 yX9_sink wsP_x_sink9) := gw_in (pre := [.methodLink RX9 331 yX9_sink, .instanceMethod yX9_sink, .selects RX9 yX9_sink yX9_sink, .initialized RX9]) (by decide +kernel) (fun _ h => List.mem_cons_of_mem _ (List.mem_append_right _ (List.mem_append_left _ h))) gW_x_sink9
set_option maxHeartbeats 4000000 in
set_option maxRecDepth 100000 in
theorem x_sortEnds9 (l : Launch) (D : va_G) (cI cB cZ : ClassId) (h0 : Nat) (a12 : Nat) (a20 : Nat) (a21 : Nat) (v0 : Value) (v1 : Value) (v2 : Value) (v3 : Value) (v4 : Value) (v5 : Value) (v6 : Value) (v7 : Value) (v8 : Value) (v9 : Value) (v10 : Value) (v11 : Value) (v13 : Value) (v14 : Value) (v15 : Value) (v16 : Value) (v17 : Value) (v18 : Value) (v19 : Value) (v22 : Value) (v23 : Value) (v24 : Value) (v25 : Value) (v26 : Value) (v27 : Value) (v28 : Value) (v29 : Value) (v30 : Value) (v31 : Value) (v32 : Value) (v33 : Value) (v34 : Value) (v35 : Value) (v36 : Value) (v37 : Value) (v38 : Value) (v39 : Value) (v40 : Value) (v41 : Value) (v42 : Value) (v43 : Value) (v44 : Value) (v45 : Value) (v46 : Value) (v47 : Value) (v48 : Value) (v49 : Value) (v50 : Value) (v51 : Value) (sf : Nat → Int32) (en : Nat → Int32) (E : Nat → Nat) (s9 : Nat) (sz : Nat) (eA : Nat → Nat) (hs : s9 < 3) (hn : E s9 ≤ 3000) (hsz : sz ≤ 3000) (hE : gEz en (3000 * s9) (E s9) sz) (heA : ∀ i, i < E s9 → en (3000 * s9 + i) = nI (eA i) ∧ eA i < sz) (hdA : ∀ i j, i < j → j < E s9 → eA i ≠ eA j) : gMv l yX9_sortEnds wsP_x_sortEnds9 ({ frames := 3, cells := 0, slots := 0, locals := 77 }) D cI cB cZ [] [.ref h0, .int (nI s9)] [(h0, .inr (9, [v0, v1, v2, v3, v4, v5, v6, v7, v8, v9, v10, v11, .ref a12, v13, v14, v15, v16, v17, v18, v19, .ref a20, .ref a21, v22, v23, v24, v25, v26, v27, v28, v29, v30, v31, v32, v33, v34, v35, v36, v37, v38, v39, v40, v41, v42, v43, v44, v45, v46, v47, v48, v49, v50, v51])), (a12, .inl (cI, 522000, .inl sf)), (a20, .inl (cI, 9000, .inl en)), (a21, .inl (cI, 3, .inl (fun j => nI (E j))))] (fun w9 => ∃ en9 : Nat → Int32, (gEz en9 (3000 * s9) (E s9) sz) ∧ (gFm en9 en (3000 * s9) 3000) ∧ (gSd (gTo sf s9) eA en9 (3000 * s9) (E s9)) ∧ w9 = [(h0, .inr (9, [v0, v1, v2, v3, v4, v5, v6, v7, v8, v9, v10, v11, .ref a12, v13, v14, v15, v16, v17, v18, v19, .ref a20, .ref a21, v22, v23, v24, v25, v26, v27, v28, v29, v30, v31, v32, v33, v34, v35, v36, v37, v38, v39, v40, v41, v42, v43, v44, v45, v46, v47, v48, v49, v50, v51])), (a12, .inl (cI, 522000, .inl sf)), (a20, .inl (cI, 9000, .inl en9)), (a21, .inl (cI, 3, .inl (fun j => nI (E j))))]) := by
  refine gMv.of (cc := cX9_sortEnds) (maxL := 5) (ret := none) (by decide) rfl (Nat.le_of_ble_eq_true rfl) (fun p e s m below meth c A ls hx hb hr hlk hml hts hown hin hA hP hK hD hS hN hl => ?_)
  have hown : s.vm.findClass RX9 = some m.cls := hown
  have hl : lv_has ls 5 [(0, .ref h0), (1, .int (nI s9))] := hl
  refine lv_aload_n hx hb dX9_sortEnds_0 rfl (lv_at hl 0 rfl) ?_
  refine va_get (D := D) (ci := 9) (v := .ref a21) (C := RX9) (T := TX9) (N := 52) hx hb hts (fun _ h => List.mem_cons_of_mem _ (List.mem_append_left _ (List.mem_append_right _ h))) hown hK hP 0 rfl rfl 21 (by decide) (hts (.fieldLink RX9 72 "LitmusHallModel" "endMany" "[I") (by decide +kernel)) (fun _ h9 => h9) rfl dX9_sortEnds_1 ?_
  refine lv_iload_n hx hb dX9_sortEnds_4 rfl (lv_at hl 1 rfl) ?_
  refine gy_ild (i := s9) hx hb hK hP 3 rfl (by omega) (by omega) dX9_sortEnds_5 ?_
  refine gx_top (y := nI (E s9)) rfl ?_
  refine lv_istore_n (lv' := [(2, .int (nI (E s9))), (0, .ref h0), (1, .int (nI s9))]) hx hb dX9_sortEnds_6 rfl hl (by decide) rfl (fun ls hl => ?_)
  refine lv_iload_n hx hb dX9_sortEnds_7 rfl (lv_at hl 0 rfl) ?_
  refine lv_iconst (v := 2) hx hb dX9_sortEnds_8 (by decide) ?_
  refine lv_idiv hx hb dX9_sortEnds_9 (by decide) ?_
  refine gx_top (y := nI ((E s9) / 2)) (gy_div (a := E s9) (b := 2) (by omega) (by decide)) ?_
  refine gx_top (y := nI ((E s9) / 2 + 1) - 1) (show nI ((E s9) / 2) = nI ((E s9) / 2 + 1) - nI 1 by rw [pk_sub (a := (E s9) / 2 + 1) (b := 1) (by omega)]; rfl) ?_
  refine lv_istore_n (lv' := [(3, .int (nI ((E s9) / 2 + 1) - 1)), (2, .int (nI (E s9))), (0, .ref h0), (1, .int (nI s9))]) hx hb dX9_sortEnds_10 rfl hl (by decide) rfl (fun ls hl => ?_)
  refine gy_loop0 (I := fun (x9 : Nat × (Nat → Int32)) H locs ls => (x9.1 ≤ (E s9) / 2 + 1) ∧ (gEz x9.2 (3000 * s9) (E s9) sz) ∧ (gFm x9.2 en (3000 * s9) 3000) ∧ (gHbx (gTo sf s9) eA x9.2 (3000 * s9) (E s9) x9.1) ∧ va_P D vwCl [(h0, .inr (9, [v0, v1, v2, v3, v4, v5, v6, v7, v8, v9, v10, v11, .ref a12, v13, v14, v15, v16, v17, v18, v19, .ref a20, .ref a21, v22, v23, v24, v25, v26, v27, v28, v29, v30, v31, v32, v33, v34, v35, v36, v37, v38, v39, v40, v41, v42, v43, v44, v45, v46, v47, v48, v49, v50, v51])), (a12, .inl (cI, 522000, .inl sf)), (a20, .inl (cI, 9000, .inl x9.2)), (a21, .inl (cI, 3, .inl (fun j => nI (E j))))] H ∧ va_D A [(h0, .inr (9, [v0, v1, v2, v3, v4, v5, v6, v7, v8, v9, v10, v11, .ref a12, v13, v14, v15, v16, v17, v18, v19, .ref a20, .ref a21, v22, v23, v24, v25, v26, v27, v28, v29, v30, v31, v32, v33, v34, v35, v36, v37, v38, v39, v40, v41, v42, v43, v44, v45, v46, v47, v48, v49, v50, v51])), (a12, .inl (cI, 522000, .inl sf)), (a20, .inl (cI, 9000, .inl x9.2)), (a21, .inl (cI, 3, .inl (fun j => nI (E j))))] ∧ va_S A s.heap H locs ∧ lv_has ls 5 [(3, .int (nI x9.1 - 1)), (2, .int (nI (E s9))), (0, .ref h0), (1, .int (nI s9))]) (μ := fun (x9 : Nat × (Nat → Int32)) => x9.1) (fun x9 H locs ls hI ih11 => ?_) (((E s9) / 2 + 1), en) ⟨(by show ((E s9) / 2 + 1) ≤ (E s9) / 2 + 1; omega), hE, gFm_0, (gHb_0 (fun i9 h9 => (heA i9 h9).1) hdA), hP, hD, hS, lv_sub hl [0, 1, 2, 3] rfl⟩
  obtain ⟨i, g⟩ := x9
  obtain ⟨hi11_0, hi11_1, hi11_2, hi11_3, hP, hD, hS, hl⟩ := hI
  have hi11_0 : i ≤ (E s9) / 2 + 1 := hi11_0
  have hi11_1 : gEz g (3000 * s9) (E s9) sz := hi11_1
  have hi11_2 : gFm g en (3000 * s9) 3000 := hi11_2
  have hi11_3 : gHbx (gTo sf s9) eA g (3000 * s9) (E s9) i := hi11_3
  have hP : va_P D vwCl [(h0, .inr (9, [v0, v1, v2, v3, v4, v5, v6, v7, v8, v9, v10, v11, .ref a12, v13, v14, v15, v16, v17, v18, v19, .ref a20, .ref a21, v22, v23, v24, v25, v26, v27, v28, v29, v30, v31, v32, v33, v34, v35, v36, v37, v38, v39, v40, v41, v42, v43, v44, v45, v46, v47, v48, v49, v50, v51])), (a12, .inl (cI, 522000, .inl sf)), (a20, .inl (cI, 9000, .inl g)), (a21, .inl (cI, 3, .inl (fun j => nI (E j))))] H := hP
  have hD : va_D A [(h0, .inr (9, [v0, v1, v2, v3, v4, v5, v6, v7, v8, v9, v10, v11, .ref a12, v13, v14, v15, v16, v17, v18, v19, .ref a20, .ref a21, v22, v23, v24, v25, v26, v27, v28, v29, v30, v31, v32, v33, v34, v35, v36, v37, v38, v39, v40, v41, v42, v43, v44, v45, v46, v47, v48, v49, v50, v51])), (a12, .inl (cI, 522000, .inl sf)), (a20, .inl (cI, 9000, .inl g)), (a21, .inl (cI, 3, .inl (fun j => nI (E j))))] := hD
  have hS : va_S A s.heap H locs := hS
  have hl : lv_has ls 5 [(3, .int (nI i - 1)), (2, .int (nI (E s9))), (0, .ref h0), (1, .int (nI s9))] := hl
  refine lv_iload_n hx hb dX9_sortEnds_11 rfl (lv_at hl 0 rfl) ?_
  refine lv_if_lt (tgt := 32) hx hb dX9_sortEnds_12 (by decide) (fun c_1 => ?_) (fun c_1 => ?_)
  · have c_1 : i = 0 := gy_m1z (by omega) c_1
    refine lv_iload_n hx hb dX9_sortEnds_32 rfl (lv_at hl 1 rfl) ?_
    refine lv_iconst (v := 1) hx hb dX9_sortEnds_33 (by decide) ?_
    refine lv_isub hx hb dX9_sortEnds_34 ?_
    refine lv_istore_n (lv' := [(3, .int (nI (E s9) - 1)), (2, .int (nI (E s9))), (0, .ref h0), (1, .int (nI s9))]) hx hb dX9_sortEnds_35 rfl hl (by decide) rfl (fun ls hl => ?_)
    refine gy_loop0 (I := fun (x9 : Nat × (Nat → Int32)) H locs ls => (x9.1 ≤ E s9) ∧ (gEz x9.2 (3000 * s9) (E s9) sz) ∧ (gFm x9.2 en (3000 * s9) 3000) ∧ (gHdx (gTo sf s9) eA x9.2 (3000 * s9) (E s9) x9.1) ∧ va_P D vwCl [(h0, .inr (9, [v0, v1, v2, v3, v4, v5, v6, v7, v8, v9, v10, v11, .ref a12, v13, v14, v15, v16, v17, v18, v19, .ref a20, .ref a21, v22, v23, v24, v25, v26, v27, v28, v29, v30, v31, v32, v33, v34, v35, v36, v37, v38, v39, v40, v41, v42, v43, v44, v45, v46, v47, v48, v49, v50, v51])), (a12, .inl (cI, 522000, .inl sf)), (a20, .inl (cI, 9000, .inl x9.2)), (a21, .inl (cI, 3, .inl (fun j => nI (E j))))] H ∧ va_D A [(h0, .inr (9, [v0, v1, v2, v3, v4, v5, v6, v7, v8, v9, v10, v11, .ref a12, v13, v14, v15, v16, v17, v18, v19, .ref a20, .ref a21, v22, v23, v24, v25, v26, v27, v28, v29, v30, v31, v32, v33, v34, v35, v36, v37, v38, v39, v40, v41, v42, v43, v44, v45, v46, v47, v48, v49, v50, v51])), (a12, .inl (cI, 522000, .inl sf)), (a20, .inl (cI, 9000, .inl x9.2)), (a21, .inl (cI, 3, .inl (fun j => nI (E j))))] ∧ va_S A s.heap H locs ∧ lv_has ls 5 [(3, .int (nI x9.1 - 1)), (2, .int (nI (E s9))), (0, .ref h0), (1, .int (nI s9))]) (μ := fun (x9 : Nat × (Nat → Int32)) => x9.1) (fun x9 H locs ls hI ih36 => ?_) ((E s9), g) ⟨(by show (E s9) ≤ E s9; omega), hi11_1, hi11_2, (gHd_0 hi11_3 (by omega)), hP, hD, hS, lv_sub hl [0, 1, 2, 3] rfl⟩
    obtain ⟨i, g2⟩ := x9
    obtain ⟨hi36_0, hi36_1, hi36_2, hi36_3, hP, hD, hS, hl⟩ := hI
    have hi36_0 : i ≤ E s9 := hi36_0
    have hi36_1 : gEz g2 (3000 * s9) (E s9) sz := hi36_1
    have hi36_2 : gFm g2 en (3000 * s9) 3000 := hi36_2
    have hi36_3 : gHdx (gTo sf s9) eA g2 (3000 * s9) (E s9) i := hi36_3
    have hP : va_P D vwCl [(h0, .inr (9, [v0, v1, v2, v3, v4, v5, v6, v7, v8, v9, v10, v11, .ref a12, v13, v14, v15, v16, v17, v18, v19, .ref a20, .ref a21, v22, v23, v24, v25, v26, v27, v28, v29, v30, v31, v32, v33, v34, v35, v36, v37, v38, v39, v40, v41, v42, v43, v44, v45, v46, v47, v48, v49, v50, v51])), (a12, .inl (cI, 522000, .inl sf)), (a20, .inl (cI, 9000, .inl g2)), (a21, .inl (cI, 3, .inl (fun j => nI (E j))))] H := hP
    have hD : va_D A [(h0, .inr (9, [v0, v1, v2, v3, v4, v5, v6, v7, v8, v9, v10, v11, .ref a12, v13, v14, v15, v16, v17, v18, v19, .ref a20, .ref a21, v22, v23, v24, v25, v26, v27, v28, v29, v30, v31, v32, v33, v34, v35, v36, v37, v38, v39, v40, v41, v42, v43, v44, v45, v46, v47, v48, v49, v50, v51])), (a12, .inl (cI, 522000, .inl sf)), (a20, .inl (cI, 9000, .inl g2)), (a21, .inl (cI, 3, .inl (fun j => nI (E j))))] := hD
    have hS : va_S A s.heap H locs := hS
    have hl : lv_has ls 5 [(3, .int (nI i - 1)), (2, .int (nI (E s9))), (0, .ref h0), (1, .int (nI s9))] := hl
    refine lv_iload_n hx hb dX9_sortEnds_36 rfl (lv_at hl 0 rfl) ?_
    refine lv_if_le (tgt := 101) hx hb dX9_sortEnds_37 (by decide) (fun c_2 => ?_) (fun c_2 => ?_)
    · have c_2 : i ≤ 1 := gy_m1l (by omega) c_2
      exact gx_vret (w' := [(h0, .inr (9, [v0, v1, v2, v3, v4, v5, v6, v7, v8, v9, v10, v11, .ref a12, v13, v14, v15, v16, v17, v18, v19, .ref a20, .ref a21, v22, v23, v24, v25, v26, v27, v28, v29, v30, v31, v32, v33, v34, v35, v36, v37, v38, v39, v40, v41, v42, v43, v44, v45, v46, v47, v48, v49, v50, v51])), (a12, .inl (cI, 522000, .inl sf)), (a20, .inl (cI, 9000, .inl g2)), (a21, .inl (cI, 3, .inl (fun j => nI (E j))))]) hx hb hr hlk hK hP hD hS (Nat.le_of_ble_eq_true rfl) (Nat.le_of_ble_eq_true rfl) dX9_sortEnds_101 ⟨g2, hi36_1, hi36_2, (gSd_e hi36_3 (by omega)), rfl⟩
    · have c_2 : 1 < i := gy_m1g (by omega) c_2
      have em : nI i - 1 = nI (i - 1) := pk_sub (a := i) (b := 1) (by omega)
      rw [em] at hl
      have hl : lv_has ls 5 [(3, .int (nI (i - 1))), (2, .int (nI (E s9))), (0, .ref h0), (1, .int (nI s9))] := hl
      refine lv_aload_n hx hb dX9_sortEnds_40 rfl (lv_at hl 2 rfl) ?_
      refine va_get (D := D) (ci := 9) (v := .ref a20) (C := RX9) (T := TX9) (N := 52) hx hb hts (fun _ h => List.mem_cons_of_mem _ (List.mem_append_left _ (List.mem_append_right _ h))) hown hK hP 0 rfl rfl 20 (by decide) (hts (.fieldLink RX9 69 "LitmusHallModel" "ends" "[I") (by decide +kernel)) (fun _ h9 => h9) rfl dX9_sortEnds_41 ?_
      refine lv_sipush (v := 3000) hx hb dX9_sortEnds_44 (by decide) ?_
      refine lv_iload_n hx hb dX9_sortEnds_47 rfl (lv_at hl 3 rfl) ?_
      refine lv_imul hx hb dX9_sortEnds_48 ?_
      refine gx_top (y := nI (3000 * s9)) (pk_mul 3000 s9) ?_
      refine lv_iload_n hx hb dX9_sortEnds_49 rfl (lv_at hl 0 rfl) ?_
      refine lv_iadd hx hb dX9_sortEnds_50 ?_
      refine gx_top (y := nI ((3000 * s9) + (i - 1))) (nI_add (3000 * s9) (i - 1)) ?_
      obtain ⟨x1, hx1, ex1⟩ := hi36_1 (i - 1) (by omega)
      refine gy_ild (i := ((3000 * s9) + (i - 1))) hx hb hK hP 2 rfl (by omega) (by omega) dX9_sortEnds_51 ?_
      refine gx_top (y := nI x1) ex1 ?_
      refine lv_istore (lv' := [(4, .int (nI x1)), (3, .int (nI (i - 1))), (2, .int (nI (E s9))), (0, .ref h0), (1, .int (nI s9))]) hx hb dX9_sortEnds_52 hl (by decide) rfl (fun ls hl => ?_)
      refine lv_aload_n hx hb dX9_sortEnds_54 rfl (lv_at hl 3 rfl) ?_
      refine va_get (D := D) (ci := 9) (v := .ref a20) (C := RX9) (T := TX9) (N := 52) hx hb hts (fun _ h => List.mem_cons_of_mem _ (List.mem_append_left _ (List.mem_append_right _ h))) hown hK hP 0 rfl rfl 20 (by decide) (hts (.fieldLink RX9 69 "LitmusHallModel" "ends" "[I") (by decide +kernel)) (fun _ h9 => h9) rfl dX9_sortEnds_55 ?_
      refine lv_sipush (v := 3000) hx hb dX9_sortEnds_58 (by decide) ?_
      refine lv_iload_n hx hb dX9_sortEnds_61 rfl (lv_at hl 4 rfl) ?_
      refine lv_imul hx hb dX9_sortEnds_62 ?_
      refine gx_top (y := nI (3000 * s9)) (pk_mul 3000 s9) ?_
      refine lv_iload_n hx hb dX9_sortEnds_63 rfl (lv_at hl 1 rfl) ?_
      refine lv_iadd hx hb dX9_sortEnds_64 ?_
      refine gx_top (y := nI ((3000 * s9) + (i - 1))) (nI_add (3000 * s9) (i - 1)) ?_
      refine lv_aload_n hx hb dX9_sortEnds_65 rfl (lv_at hl 3 rfl) ?_
      refine va_get (D := D) (ci := 9) (v := .ref a20) (C := RX9) (T := TX9) (N := 52) hx hb hts (fun _ h => List.mem_cons_of_mem _ (List.mem_append_left _ (List.mem_append_right _ h))) hown hK hP 0 rfl rfl 20 (by decide) (hts (.fieldLink RX9 69 "LitmusHallModel" "ends" "[I") (by decide +kernel)) (fun _ h9 => h9) rfl dX9_sortEnds_66 ?_
      refine lv_sipush (v := 3000) hx hb dX9_sortEnds_69 (by decide) ?_
      refine lv_iload_n hx hb dX9_sortEnds_72 rfl (lv_at hl 4 rfl) ?_
      refine lv_imul hx hb dX9_sortEnds_73 ?_
      refine gx_top (y := nI (3000 * s9)) (pk_mul 3000 s9) ?_
      obtain ⟨x2, hx2, ex2⟩ := hi36_1 0 (by omega)
      refine gy_ild (i := (3000 * s9)) hx hb hK hP 2 rfl (by omega) (by omega) dX9_sortEnds_74 ?_
      refine gx_top (y := nI x2) (gy_at ex2 (by omega)) ?_
      refine gy_ist (i := ((3000 * s9) + (i - 1))) hx hb hK hP hD hS 2 rfl (by omega) (by omega) dX9_sortEnds_75 (fun H locs hP hD hS => ?_)
      have hP : va_P D vwCl [(h0, .inr (9, [v0, v1, v2, v3, v4, v5, v6, v7, v8, v9, v10, v11, .ref a12, v13, v14, v15, v16, v17, v18, v19, .ref a20, .ref a21, v22, v23, v24, v25, v26, v27, v28, v29, v30, v31, v32, v33, v34, v35, v36, v37, v38, v39, v40, v41, v42, v43, v44, v45, v46, v47, v48, v49, v50, v51])), (a12, .inl (cI, 522000, .inl sf)), (a20, .inl (cI, 9000, .inl (upd g2 ((3000 * s9) + (i - 1)) (nI x2)))), (a21, .inl (cI, 3, .inl (fun j => nI (E j))))] H := hP
      have hD : va_D A [(h0, .inr (9, [v0, v1, v2, v3, v4, v5, v6, v7, v8, v9, v10, v11, .ref a12, v13, v14, v15, v16, v17, v18, v19, .ref a20, .ref a21, v22, v23, v24, v25, v26, v27, v28, v29, v30, v31, v32, v33, v34, v35, v36, v37, v38, v39, v40, v41, v42, v43, v44, v45, v46, v47, v48, v49, v50, v51])), (a12, .inl (cI, 522000, .inl sf)), (a20, .inl (cI, 9000, .inl (upd g2 ((3000 * s9) + (i - 1)) (nI x2)))), (a21, .inl (cI, 3, .inl (fun j => nI (E j))))] := hD
      refine lv_aload_n hx hb dX9_sortEnds_76 rfl (lv_at hl 3 rfl) ?_
      refine va_get (D := D) (ci := 9) (v := .ref a20) (C := RX9) (T := TX9) (N := 52) hx hb hts (fun _ h => List.mem_cons_of_mem _ (List.mem_append_left _ (List.mem_append_right _ h))) hown hK hP 0 rfl rfl 20 (by decide) (hts (.fieldLink RX9 69 "LitmusHallModel" "ends" "[I") (by decide +kernel)) (fun _ h9 => h9) rfl dX9_sortEnds_77 ?_
      refine lv_sipush (v := 3000) hx hb dX9_sortEnds_80 (by decide) ?_
      refine lv_iload_n hx hb dX9_sortEnds_83 rfl (lv_at hl 4 rfl) ?_
      refine lv_imul hx hb dX9_sortEnds_84 ?_
      refine gx_top (y := nI (3000 * s9)) (pk_mul 3000 s9) ?_
      refine lv_iload hx hb dX9_sortEnds_85 (lv_at hl 0 rfl) ?_
      refine gy_ist (i := (3000 * s9)) hx hb hK hP hD hS 2 rfl (by omega) (by omega) dX9_sortEnds_87 (fun H locs hP hD hS => ?_)
      have hP : va_P D vwCl [(h0, .inr (9, [v0, v1, v2, v3, v4, v5, v6, v7, v8, v9, v10, v11, .ref a12, v13, v14, v15, v16, v17, v18, v19, .ref a20, .ref a21, v22, v23, v24, v25, v26, v27, v28, v29, v30, v31, v32, v33, v34, v35, v36, v37, v38, v39, v40, v41, v42, v43, v44, v45, v46, v47, v48, v49, v50, v51])), (a12, .inl (cI, 522000, .inl sf)), (a20, .inl (cI, 9000, .inl (upd (upd g2 ((3000 * s9) + (i - 1)) (nI x2)) (3000 * s9) (nI x1)))), (a21, .inl (cI, 3, .inl (fun j => nI (E j))))] H := hP
      have hD : va_D A [(h0, .inr (9, [v0, v1, v2, v3, v4, v5, v6, v7, v8, v9, v10, v11, .ref a12, v13, v14, v15, v16, v17, v18, v19, .ref a20, .ref a21, v22, v23, v24, v25, v26, v27, v28, v29, v30, v31, v32, v33, v34, v35, v36, v37, v38, v39, v40, v41, v42, v43, v44, v45, v46, v47, v48, v49, v50, v51])), (a12, .inl (cI, 522000, .inl sf)), (a20, .inl (cI, 9000, .inl (upd (upd g2 ((3000 * s9) + (i - 1)) (nI x2)) (3000 * s9) (nI x1)))), (a21, .inl (cI, 3, .inl (fun j => nI (E j))))] := hD
      have hE2 := gEz_u (k := 0) (gEz_u (k := i - 1) hi36_1 rfl hx2) rfl hx1
      have hF2 := gFm_u (a := 3000 * s9) (x := nI x1) (gFm_u (a := 3000 * s9 + (i - 1)) (x := nI x2) hi36_2 (by omega) (by omega)) (by omega) (by omega)
      obtain ⟨eB, hB9⟩ := hi36_3
      have hsA9 := gSw_A hB9 (by omega) (by omega) ex1 (gy_at ex2 (by omega))
      have hsR9 := gSw_r (i := i) hB9.1 (by omega) (by omega)
      refine lv_aload_n hx hb dX9_sortEnds_88 rfl (lv_at hl 3 rfl) ?_
      refine lv_iload_n hx hb dX9_sortEnds_89 rfl (lv_at hl 4 rfl) ?_
      refine lv_iconst (v := 0) hx hb dX9_sortEnds_90 (by decide) ?_
      refine lv_iload_n hx hb dX9_sortEnds_91 rfl (lv_at hl 1 rfl) ?_
      refine gx_gov (wc := [(h0, .inr (9, [v0, v1, v2, v3, v4, v5, v6, v7, v8, v9, v10, v11, .ref a12, v13, v14, v15, v16, v17, v18, v19, .ref a20, .ref a21, v22, v23, v24, v25, v26, v27, v28, v29, v30, v31, v32, v33, v34, v35, v36, v37, v38, v39, v40, v41, v42, v43, v44, v45, v46, v47, v48, v49, v50, v51])), (a12, .inl (cI, 522000, .inl sf)), (a20, .inl (cI, 9000, .inl (upd (upd g2 ((3000 * s9) + (i - 1)) (nI x2)) (3000 * s9) (nI x1))))]) (wr := [(a21, .inl (cI, 3, .inl (fun j => nI (E j))))]) (va_runV (As := [.int (nI s9), .int 0, .int (nI (i - 1))]) (rest := []) ⟨hx, hb, hml, hown, hts⟩ (x_sink9 l D cI cB cZ h0 a12 a20 (v0) (v1) (v2) (v3) (v4) (v5) (v6) (v7) (v8) (v9) (v10) (v11) (v13) (v14) (v15) (v16) (v17) (v18) (v19) (.ref a21) (v22) (v23) (v24) (v25) (v26) (v27) (v28) (v29) (v30) (v31) (v32) (v33) (v34) (v35) (v36) (v37) (v38) (v39) (v40) (v41) (v42) (v43) (v44) (v45) (v46) (v47) (v48) (v49) (v50) (v51) sf (upd (upd g2 ((3000 * s9) + (i - 1)) (nI x2)) (3000 * s9) (nI x1)) s9 0 (i - 1) sz (gSw eB i) (by omega) (by omega) (by omega) (by omega) (gEz_le hE2 (by omega)) (fun j9 h9 => ⟨hsA9 j9 (by omega), by obtain ⟨t9, ht9, et9⟩ := hsR9.1 j9 (by omega); rw [et9]; exact (heA t9 ht9).2⟩) (fun i9 j9 a9 b9 => hsR9.2.2 i9 j9 a9 (by omega)) (gSw_h hB9.2.2.1 (by omega)) _) (cwV 3 hts gP_x_sortEnds9__x_sink9 rfl rfl rfl (by decide +kernel) ⟨Nat.le_of_ble_eq_true rfl, Nat.le_of_ble_eq_true rfl⟩) (gx_preV (ci := 9) (q0 := 0) hK gN.nil hP hD [0, 1, 2] rfl rfl rfl rfl) rfl rfl hl.1 rfl (lv_room (Nat.le_of_ble_eq_true rfl)) dX9_sortEnds_92 ⟨Nat.le_of_ble_eq_true rfl, Nat.le_of_ble_eq_true rfl⟩) hP hD hS hA [0, 1, 2] [3] rfl rfl rfl (by decide) (fun w1 H locs hp hP hD hS => ?_)
      obtain ⟨e_3, hq_4, hq_5, hx92_0, rfl⟩ := hp
      have hq_4 : gEz e_3 (3000 * s9) (i - 1) sz := hq_4
      have hq_5 : gFm e_3 (upd (upd g2 ((3000 * s9) + (i - 1)) (nI x2)) (3000 * s9) (nI x1)) (3000 * s9) (i - 1) := hq_5
      have hx92_0 : gSo (gTo sf s9) (gSw eB i) e_3 (3000 * s9) (i - 1) 0 := hx92_0
      refine lv_iinc (v := nI (i - 1) - 1) (lv' := [(3, .int (nI (i - 1) - 1)), (4, .int (nI x1)), (2, .int (nI (E s9))), (0, .ref h0), (1, .int (nI s9))]) hx hb dX9_sortEnds_95 hl (k := 1) rfl (gy_dec (i - 1)) (by decide) rfl (fun ls hl => ?_)
      refine lv_goto (tgt := 36) hx hb dX9_sortEnds_98 (by decide) ?_
      have hP : va_P D vwCl [(a21, .inl (cI, 3, .inl (fun j => nI (E j)))), (h0, .inr (9, [v0, v1, v2, v3, v4, v5, v6, v7, v8, v9, v10, v11, .ref a12, v13, v14, v15, v16, v17, v18, v19, .ref a20, .ref a21, v22, v23, v24, v25, v26, v27, v28, v29, v30, v31, v32, v33, v34, v35, v36, v37, v38, v39, v40, v41, v42, v43, v44, v45, v46, v47, v48, v49, v50, v51])), (a12, .inl (cI, 522000, .inl sf)), (a20, .inl (cI, 9000, .inl e_3))] H := hP
      have hD : va_D A [(a21, .inl (cI, 3, .inl (fun j => nI (E j)))), (h0, .inr (9, [v0, v1, v2, v3, v4, v5, v6, v7, v8, v9, v10, v11, .ref a12, v13, v14, v15, v16, v17, v18, v19, .ref a20, .ref a21, v22, v23, v24, v25, v26, v27, v28, v29, v30, v31, v32, v33, v34, v35, v36, v37, v38, v39, v40, v41, v42, v43, v44, v45, v46, v47, v48, v49, v50, v51])), (a12, .inl (cI, 522000, .inl sf)), (a20, .inl (cI, 9000, .inl e_3))] := hD
      have hP := hP.sub (ws' := [(h0, .inr (9, [v0, v1, v2, v3, v4, v5, v6, v7, v8, v9, v10, v11, .ref a12, v13, v14, v15, v16, v17, v18, v19, .ref a20, .ref a21, v22, v23, v24, v25, v26, v27, v28, v29, v30, v31, v32, v33, v34, v35, v36, v37, v38, v39, v40, v41, v42, v43, v44, v45, v46, v47, v48, v49, v50, v51])), (a12, .inl (cI, 522000, .inl sf)), (a20, .inl (cI, 9000, .inl e_3)), (a21, .inl (cI, 3, .inl (fun j => nI (E j))))]) [1, 2, 3, 0] rfl
      have hD := hD.sub (ws' := [(h0, .inr (9, [v0, v1, v2, v3, v4, v5, v6, v7, v8, v9, v10, v11, .ref a12, v13, v14, v15, v16, v17, v18, v19, .ref a20, .ref a21, v22, v23, v24, v25, v26, v27, v28, v29, v30, v31, v32, v33, v34, v35, v36, v37, v38, v39, v40, v41, v42, v43, v44, v45, v46, v47, v48, v49, v50, v51])), (a12, .inl (cI, 522000, .inl sf)), (a20, .inl (cI, 9000, .inl e_3)), (a21, .inl (cI, 3, .inl (fun j => nI (E j))))]) [1, 2, 3, 0] (by decide) rfl
      exact ih36 ((i - 1), e_3) H locs ls ⟨(by show (i - 1) ≤ E s9; omega), (gEz_fm hE2 hq_5 hq_4), (gFm_t hF2 hq_5 (by omega)), (gHd_s hB9 (by omega) (by omega) hsA9 hx92_0 (fun j9 a9 b9 => hq_5 _ (by omega))), hP, hD, hS, lv_sub hl [0, 2, 3, 4] rfl⟩ (by show (i - 1) < i; omega)
  · have c_1 : 0 < i := gy_m1p (by omega) c_1
    have em : nI i - 1 = nI (i - 1) := pk_sub (a := i) (b := 1) (by omega)
    rw [em] at hl
    have hl : lv_has ls 5 [(3, .int (nI (i - 1))), (2, .int (nI (E s9))), (0, .ref h0), (1, .int (nI s9))] := hl
    refine lv_iload_n hx hb dX9_sortEnds_15 rfl (lv_at hl 1 rfl) ?_
    refine lv_if_le (tgt := 32) hx hb dX9_sortEnds_16 (by decide) (fun c_6i => ?_) (fun c_6i => ?_)
    · have c_6 : E s9 ≤ 0 := (nI_leI (a := E s9) (b := 0) (by omega) (by decide)).mp c_6i
      refine lv_iload_n hx hb dX9_sortEnds_32 rfl (lv_at hl 1 rfl) ?_
      refine lv_iconst (v := 1) hx hb dX9_sortEnds_33 (by decide) ?_
      refine lv_isub hx hb dX9_sortEnds_34 ?_
      refine lv_istore_n (lv' := [(3, .int (nI (E s9) - 1)), (2, .int (nI (E s9))), (0, .ref h0), (1, .int (nI s9))]) hx hb dX9_sortEnds_35 rfl hl (by decide) rfl (fun ls hl => ?_)
      refine gy_loop0 (I := fun (x9 : Nat × (Nat → Int32)) H locs ls => (x9.1 ≤ E s9) ∧ (gEz x9.2 (3000 * s9) (E s9) sz) ∧ (gFm x9.2 en (3000 * s9) 3000) ∧ (gHdx (gTo sf s9) eA x9.2 (3000 * s9) (E s9) x9.1) ∧ va_P D vwCl [(h0, .inr (9, [v0, v1, v2, v3, v4, v5, v6, v7, v8, v9, v10, v11, .ref a12, v13, v14, v15, v16, v17, v18, v19, .ref a20, .ref a21, v22, v23, v24, v25, v26, v27, v28, v29, v30, v31, v32, v33, v34, v35, v36, v37, v38, v39, v40, v41, v42, v43, v44, v45, v46, v47, v48, v49, v50, v51])), (a12, .inl (cI, 522000, .inl sf)), (a20, .inl (cI, 9000, .inl x9.2)), (a21, .inl (cI, 3, .inl (fun j => nI (E j))))] H ∧ va_D A [(h0, .inr (9, [v0, v1, v2, v3, v4, v5, v6, v7, v8, v9, v10, v11, .ref a12, v13, v14, v15, v16, v17, v18, v19, .ref a20, .ref a21, v22, v23, v24, v25, v26, v27, v28, v29, v30, v31, v32, v33, v34, v35, v36, v37, v38, v39, v40, v41, v42, v43, v44, v45, v46, v47, v48, v49, v50, v51])), (a12, .inl (cI, 522000, .inl sf)), (a20, .inl (cI, 9000, .inl x9.2)), (a21, .inl (cI, 3, .inl (fun j => nI (E j))))] ∧ va_S A s.heap H locs ∧ lv_has ls 5 [(3, .int (nI x9.1 - 1)), (2, .int (nI (E s9))), (0, .ref h0), (1, .int (nI s9))]) (μ := fun (x9 : Nat × (Nat → Int32)) => x9.1) (fun x9 H locs ls hI ih36 => ?_) ((E s9), g) ⟨(by show (E s9) ≤ E s9; omega), hi11_1, hi11_2, (gHd_0 hi11_3 (by omega)), hP, hD, hS, lv_sub hl [0, 1, 2, 3] rfl⟩
      obtain ⟨i, g2⟩ := x9
      obtain ⟨hi36_0, hi36_1, hi36_2, hi36_3, hP, hD, hS, hl⟩ := hI
      have hi36_0 : i ≤ E s9 := hi36_0
      have hi36_1 : gEz g2 (3000 * s9) (E s9) sz := hi36_1
      have hi36_2 : gFm g2 en (3000 * s9) 3000 := hi36_2
      have hi36_3 : gHdx (gTo sf s9) eA g2 (3000 * s9) (E s9) i := hi36_3
      have hP : va_P D vwCl [(h0, .inr (9, [v0, v1, v2, v3, v4, v5, v6, v7, v8, v9, v10, v11, .ref a12, v13, v14, v15, v16, v17, v18, v19, .ref a20, .ref a21, v22, v23, v24, v25, v26, v27, v28, v29, v30, v31, v32, v33, v34, v35, v36, v37, v38, v39, v40, v41, v42, v43, v44, v45, v46, v47, v48, v49, v50, v51])), (a12, .inl (cI, 522000, .inl sf)), (a20, .inl (cI, 9000, .inl g2)), (a21, .inl (cI, 3, .inl (fun j => nI (E j))))] H := hP
      have hD : va_D A [(h0, .inr (9, [v0, v1, v2, v3, v4, v5, v6, v7, v8, v9, v10, v11, .ref a12, v13, v14, v15, v16, v17, v18, v19, .ref a20, .ref a21, v22, v23, v24, v25, v26, v27, v28, v29, v30, v31, v32, v33, v34, v35, v36, v37, v38, v39, v40, v41, v42, v43, v44, v45, v46, v47, v48, v49, v50, v51])), (a12, .inl (cI, 522000, .inl sf)), (a20, .inl (cI, 9000, .inl g2)), (a21, .inl (cI, 3, .inl (fun j => nI (E j))))] := hD
      have hS : va_S A s.heap H locs := hS
      have hl : lv_has ls 5 [(3, .int (nI i - 1)), (2, .int (nI (E s9))), (0, .ref h0), (1, .int (nI s9))] := hl
      refine lv_iload_n hx hb dX9_sortEnds_36 rfl (lv_at hl 0 rfl) ?_
      refine lv_if_le (tgt := 101) hx hb dX9_sortEnds_37 (by decide) (fun c_7 => ?_) (fun c_7 => ?_)
      · have c_7 : i ≤ 1 := gy_m1l (by omega) c_7
        exact gx_vret (w' := [(h0, .inr (9, [v0, v1, v2, v3, v4, v5, v6, v7, v8, v9, v10, v11, .ref a12, v13, v14, v15, v16, v17, v18, v19, .ref a20, .ref a21, v22, v23, v24, v25, v26, v27, v28, v29, v30, v31, v32, v33, v34, v35, v36, v37, v38, v39, v40, v41, v42, v43, v44, v45, v46, v47, v48, v49, v50, v51])), (a12, .inl (cI, 522000, .inl sf)), (a20, .inl (cI, 9000, .inl g2)), (a21, .inl (cI, 3, .inl (fun j => nI (E j))))]) hx hb hr hlk hK hP hD hS (Nat.le_of_ble_eq_true rfl) (Nat.le_of_ble_eq_true rfl) dX9_sortEnds_101 ⟨g2, hi36_1, hi36_2, (gSd_e hi36_3 (by omega)), rfl⟩
      · have c_7 : 1 < i := gy_m1g (by omega) c_7
        have em : nI i - 1 = nI (i - 1) := pk_sub (a := i) (b := 1) (by omega)
        rw [em] at hl
        have hl : lv_has ls 5 [(3, .int (nI (i - 1))), (2, .int (nI (E s9))), (0, .ref h0), (1, .int (nI s9))] := hl
        refine lv_aload_n hx hb dX9_sortEnds_40 rfl (lv_at hl 2 rfl) ?_
        refine va_get (D := D) (ci := 9) (v := .ref a20) (C := RX9) (T := TX9) (N := 52) hx hb hts (fun _ h => List.mem_cons_of_mem _ (List.mem_append_left _ (List.mem_append_right _ h))) hown hK hP 0 rfl rfl 20 (by decide) (hts (.fieldLink RX9 69 "LitmusHallModel" "ends" "[I") (by decide +kernel)) (fun _ h9 => h9) rfl dX9_sortEnds_41 ?_
        refine lv_sipush (v := 3000) hx hb dX9_sortEnds_44 (by decide) ?_
        refine lv_iload_n hx hb dX9_sortEnds_47 rfl (lv_at hl 3 rfl) ?_
        refine lv_imul hx hb dX9_sortEnds_48 ?_
        refine gx_top (y := nI (3000 * s9)) (pk_mul 3000 s9) ?_
        refine lv_iload_n hx hb dX9_sortEnds_49 rfl (lv_at hl 0 rfl) ?_
        refine lv_iadd hx hb dX9_sortEnds_50 ?_
        refine gx_top (y := nI ((3000 * s9) + (i - 1))) (nI_add (3000 * s9) (i - 1)) ?_
        obtain ⟨x1, hx1, ex1⟩ := hi36_1 (i - 1) (by omega)
        refine gy_ild (i := ((3000 * s9) + (i - 1))) hx hb hK hP 2 rfl (by omega) (by omega) dX9_sortEnds_51 ?_
        refine gx_top (y := nI x1) ex1 ?_
        refine lv_istore (lv' := [(4, .int (nI x1)), (3, .int (nI (i - 1))), (2, .int (nI (E s9))), (0, .ref h0), (1, .int (nI s9))]) hx hb dX9_sortEnds_52 hl (by decide) rfl (fun ls hl => ?_)
        refine lv_aload_n hx hb dX9_sortEnds_54 rfl (lv_at hl 3 rfl) ?_
        refine va_get (D := D) (ci := 9) (v := .ref a20) (C := RX9) (T := TX9) (N := 52) hx hb hts (fun _ h => List.mem_cons_of_mem _ (List.mem_append_left _ (List.mem_append_right _ h))) hown hK hP 0 rfl rfl 20 (by decide) (hts (.fieldLink RX9 69 "LitmusHallModel" "ends" "[I") (by decide +kernel)) (fun _ h9 => h9) rfl dX9_sortEnds_55 ?_
        refine lv_sipush (v := 3000) hx hb dX9_sortEnds_58 (by decide) ?_
        refine lv_iload_n hx hb dX9_sortEnds_61 rfl (lv_at hl 4 rfl) ?_
        refine lv_imul hx hb dX9_sortEnds_62 ?_
        refine gx_top (y := nI (3000 * s9)) (pk_mul 3000 s9) ?_
        refine lv_iload_n hx hb dX9_sortEnds_63 rfl (lv_at hl 1 rfl) ?_
        refine lv_iadd hx hb dX9_sortEnds_64 ?_
        refine gx_top (y := nI ((3000 * s9) + (i - 1))) (nI_add (3000 * s9) (i - 1)) ?_
        refine lv_aload_n hx hb dX9_sortEnds_65 rfl (lv_at hl 3 rfl) ?_
        refine va_get (D := D) (ci := 9) (v := .ref a20) (C := RX9) (T := TX9) (N := 52) hx hb hts (fun _ h => List.mem_cons_of_mem _ (List.mem_append_left _ (List.mem_append_right _ h))) hown hK hP 0 rfl rfl 20 (by decide) (hts (.fieldLink RX9 69 "LitmusHallModel" "ends" "[I") (by decide +kernel)) (fun _ h9 => h9) rfl dX9_sortEnds_66 ?_
        refine lv_sipush (v := 3000) hx hb dX9_sortEnds_69 (by decide) ?_
        refine lv_iload_n hx hb dX9_sortEnds_72 rfl (lv_at hl 4 rfl) ?_
        refine lv_imul hx hb dX9_sortEnds_73 ?_
        refine gx_top (y := nI (3000 * s9)) (pk_mul 3000 s9) ?_
        obtain ⟨x2, hx2, ex2⟩ := hi36_1 0 (by omega)
        refine gy_ild (i := (3000 * s9)) hx hb hK hP 2 rfl (by omega) (by omega) dX9_sortEnds_74 ?_
        refine gx_top (y := nI x2) (gy_at ex2 (by omega)) ?_
        refine gy_ist (i := ((3000 * s9) + (i - 1))) hx hb hK hP hD hS 2 rfl (by omega) (by omega) dX9_sortEnds_75 (fun H locs hP hD hS => ?_)
        have hP : va_P D vwCl [(h0, .inr (9, [v0, v1, v2, v3, v4, v5, v6, v7, v8, v9, v10, v11, .ref a12, v13, v14, v15, v16, v17, v18, v19, .ref a20, .ref a21, v22, v23, v24, v25, v26, v27, v28, v29, v30, v31, v32, v33, v34, v35, v36, v37, v38, v39, v40, v41, v42, v43, v44, v45, v46, v47, v48, v49, v50, v51])), (a12, .inl (cI, 522000, .inl sf)), (a20, .inl (cI, 9000, .inl (upd g2 ((3000 * s9) + (i - 1)) (nI x2)))), (a21, .inl (cI, 3, .inl (fun j => nI (E j))))] H := hP
        have hD : va_D A [(h0, .inr (9, [v0, v1, v2, v3, v4, v5, v6, v7, v8, v9, v10, v11, .ref a12, v13, v14, v15, v16, v17, v18, v19, .ref a20, .ref a21, v22, v23, v24, v25, v26, v27, v28, v29, v30, v31, v32, v33, v34, v35, v36, v37, v38, v39, v40, v41, v42, v43, v44, v45, v46, v47, v48, v49, v50, v51])), (a12, .inl (cI, 522000, .inl sf)), (a20, .inl (cI, 9000, .inl (upd g2 ((3000 * s9) + (i - 1)) (nI x2)))), (a21, .inl (cI, 3, .inl (fun j => nI (E j))))] := hD
        refine lv_aload_n hx hb dX9_sortEnds_76 rfl (lv_at hl 3 rfl) ?_
        refine va_get (D := D) (ci := 9) (v := .ref a20) (C := RX9) (T := TX9) (N := 52) hx hb hts (fun _ h => List.mem_cons_of_mem _ (List.mem_append_left _ (List.mem_append_right _ h))) hown hK hP 0 rfl rfl 20 (by decide) (hts (.fieldLink RX9 69 "LitmusHallModel" "ends" "[I") (by decide +kernel)) (fun _ h9 => h9) rfl dX9_sortEnds_77 ?_
        refine lv_sipush (v := 3000) hx hb dX9_sortEnds_80 (by decide) ?_
        refine lv_iload_n hx hb dX9_sortEnds_83 rfl (lv_at hl 4 rfl) ?_
        refine lv_imul hx hb dX9_sortEnds_84 ?_
        refine gx_top (y := nI (3000 * s9)) (pk_mul 3000 s9) ?_
        refine lv_iload hx hb dX9_sortEnds_85 (lv_at hl 0 rfl) ?_
        refine gy_ist (i := (3000 * s9)) hx hb hK hP hD hS 2 rfl (by omega) (by omega) dX9_sortEnds_87 (fun H locs hP hD hS => ?_)
        have hP : va_P D vwCl [(h0, .inr (9, [v0, v1, v2, v3, v4, v5, v6, v7, v8, v9, v10, v11, .ref a12, v13, v14, v15, v16, v17, v18, v19, .ref a20, .ref a21, v22, v23, v24, v25, v26, v27, v28, v29, v30, v31, v32, v33, v34, v35, v36, v37, v38, v39, v40, v41, v42, v43, v44, v45, v46, v47, v48, v49, v50, v51])), (a12, .inl (cI, 522000, .inl sf)), (a20, .inl (cI, 9000, .inl (upd (upd g2 ((3000 * s9) + (i - 1)) (nI x2)) (3000 * s9) (nI x1)))), (a21, .inl (cI, 3, .inl (fun j => nI (E j))))] H := hP
        have hD : va_D A [(h0, .inr (9, [v0, v1, v2, v3, v4, v5, v6, v7, v8, v9, v10, v11, .ref a12, v13, v14, v15, v16, v17, v18, v19, .ref a20, .ref a21, v22, v23, v24, v25, v26, v27, v28, v29, v30, v31, v32, v33, v34, v35, v36, v37, v38, v39, v40, v41, v42, v43, v44, v45, v46, v47, v48, v49, v50, v51])), (a12, .inl (cI, 522000, .inl sf)), (a20, .inl (cI, 9000, .inl (upd (upd g2 ((3000 * s9) + (i - 1)) (nI x2)) (3000 * s9) (nI x1)))), (a21, .inl (cI, 3, .inl (fun j => nI (E j))))] := hD
        have hE2 := gEz_u (k := 0) (gEz_u (k := i - 1) hi36_1 rfl hx2) rfl hx1
        have hF2 := gFm_u (a := 3000 * s9) (x := nI x1) (gFm_u (a := 3000 * s9 + (i - 1)) (x := nI x2) hi36_2 (by omega) (by omega)) (by omega) (by omega)
        obtain ⟨eB, hB9⟩ := hi36_3
        have hsA9 := gSw_A hB9 (by omega) (by omega) ex1 (gy_at ex2 (by omega))
        have hsR9 := gSw_r (i := i) hB9.1 (by omega) (by omega)
        refine lv_aload_n hx hb dX9_sortEnds_88 rfl (lv_at hl 3 rfl) ?_
        refine lv_iload_n hx hb dX9_sortEnds_89 rfl (lv_at hl 4 rfl) ?_
        refine lv_iconst (v := 0) hx hb dX9_sortEnds_90 (by decide) ?_
        refine lv_iload_n hx hb dX9_sortEnds_91 rfl (lv_at hl 1 rfl) ?_
        refine gx_gov (wc := [(h0, .inr (9, [v0, v1, v2, v3, v4, v5, v6, v7, v8, v9, v10, v11, .ref a12, v13, v14, v15, v16, v17, v18, v19, .ref a20, .ref a21, v22, v23, v24, v25, v26, v27, v28, v29, v30, v31, v32, v33, v34, v35, v36, v37, v38, v39, v40, v41, v42, v43, v44, v45, v46, v47, v48, v49, v50, v51])), (a12, .inl (cI, 522000, .inl sf)), (a20, .inl (cI, 9000, .inl (upd (upd g2 ((3000 * s9) + (i - 1)) (nI x2)) (3000 * s9) (nI x1))))]) (wr := [(a21, .inl (cI, 3, .inl (fun j => nI (E j))))]) (va_runV (As := [.int (nI s9), .int 0, .int (nI (i - 1))]) (rest := []) ⟨hx, hb, hml, hown, hts⟩ (x_sink9 l D cI cB cZ h0 a12 a20 (v0) (v1) (v2) (v3) (v4) (v5) (v6) (v7) (v8) (v9) (v10) (v11) (v13) (v14) (v15) (v16) (v17) (v18) (v19) (.ref a21) (v22) (v23) (v24) (v25) (v26) (v27) (v28) (v29) (v30) (v31) (v32) (v33) (v34) (v35) (v36) (v37) (v38) (v39) (v40) (v41) (v42) (v43) (v44) (v45) (v46) (v47) (v48) (v49) (v50) (v51) sf (upd (upd g2 ((3000 * s9) + (i - 1)) (nI x2)) (3000 * s9) (nI x1)) s9 0 (i - 1) sz (gSw eB i) (by omega) (by omega) (by omega) (by omega) (gEz_le hE2 (by omega)) (fun j9 h9 => ⟨hsA9 j9 (by omega), by obtain ⟨t9, ht9, et9⟩ := hsR9.1 j9 (by omega); rw [et9]; exact (heA t9 ht9).2⟩) (fun i9 j9 a9 b9 => hsR9.2.2 i9 j9 a9 (by omega)) (gSw_h hB9.2.2.1 (by omega)) _) (cwV 3 hts gP_x_sortEnds9__x_sink9 rfl rfl rfl (by decide +kernel) ⟨Nat.le_of_ble_eq_true rfl, Nat.le_of_ble_eq_true rfl⟩) (gx_preV (ci := 9) (q0 := 0) hK gN.nil hP hD [0, 1, 2] rfl rfl rfl rfl) rfl rfl hl.1 rfl (lv_room (Nat.le_of_ble_eq_true rfl)) dX9_sortEnds_92 ⟨Nat.le_of_ble_eq_true rfl, Nat.le_of_ble_eq_true rfl⟩) hP hD hS hA [0, 1, 2] [3] rfl rfl rfl (by decide) (fun w1 H locs hp hP hD hS => ?_)
        obtain ⟨e_8, hq_9, hq_10, hx92_0, rfl⟩ := hp
        have hq_9 : gEz e_8 (3000 * s9) (i - 1) sz := hq_9
        have hq_10 : gFm e_8 (upd (upd g2 ((3000 * s9) + (i - 1)) (nI x2)) (3000 * s9) (nI x1)) (3000 * s9) (i - 1) := hq_10
        have hx92_0 : gSo (gTo sf s9) (gSw eB i) e_8 (3000 * s9) (i - 1) 0 := hx92_0
        refine lv_iinc (v := nI (i - 1) - 1) (lv' := [(3, .int (nI (i - 1) - 1)), (4, .int (nI x1)), (2, .int (nI (E s9))), (0, .ref h0), (1, .int (nI s9))]) hx hb dX9_sortEnds_95 hl (k := 1) rfl (gy_dec (i - 1)) (by decide) rfl (fun ls hl => ?_)
        refine lv_goto (tgt := 36) hx hb dX9_sortEnds_98 (by decide) ?_
        have hP : va_P D vwCl [(a21, .inl (cI, 3, .inl (fun j => nI (E j)))), (h0, .inr (9, [v0, v1, v2, v3, v4, v5, v6, v7, v8, v9, v10, v11, .ref a12, v13, v14, v15, v16, v17, v18, v19, .ref a20, .ref a21, v22, v23, v24, v25, v26, v27, v28, v29, v30, v31, v32, v33, v34, v35, v36, v37, v38, v39, v40, v41, v42, v43, v44, v45, v46, v47, v48, v49, v50, v51])), (a12, .inl (cI, 522000, .inl sf)), (a20, .inl (cI, 9000, .inl e_8))] H := hP
        have hD : va_D A [(a21, .inl (cI, 3, .inl (fun j => nI (E j)))), (h0, .inr (9, [v0, v1, v2, v3, v4, v5, v6, v7, v8, v9, v10, v11, .ref a12, v13, v14, v15, v16, v17, v18, v19, .ref a20, .ref a21, v22, v23, v24, v25, v26, v27, v28, v29, v30, v31, v32, v33, v34, v35, v36, v37, v38, v39, v40, v41, v42, v43, v44, v45, v46, v47, v48, v49, v50, v51])), (a12, .inl (cI, 522000, .inl sf)), (a20, .inl (cI, 9000, .inl e_8))] := hD
        have hP := hP.sub (ws' := [(h0, .inr (9, [v0, v1, v2, v3, v4, v5, v6, v7, v8, v9, v10, v11, .ref a12, v13, v14, v15, v16, v17, v18, v19, .ref a20, .ref a21, v22, v23, v24, v25, v26, v27, v28, v29, v30, v31, v32, v33, v34, v35, v36, v37, v38, v39, v40, v41, v42, v43, v44, v45, v46, v47, v48, v49, v50, v51])), (a12, .inl (cI, 522000, .inl sf)), (a20, .inl (cI, 9000, .inl e_8)), (a21, .inl (cI, 3, .inl (fun j => nI (E j))))]) [1, 2, 3, 0] rfl
        have hD := hD.sub (ws' := [(h0, .inr (9, [v0, v1, v2, v3, v4, v5, v6, v7, v8, v9, v10, v11, .ref a12, v13, v14, v15, v16, v17, v18, v19, .ref a20, .ref a21, v22, v23, v24, v25, v26, v27, v28, v29, v30, v31, v32, v33, v34, v35, v36, v37, v38, v39, v40, v41, v42, v43, v44, v45, v46, v47, v48, v49, v50, v51])), (a12, .inl (cI, 522000, .inl sf)), (a20, .inl (cI, 9000, .inl e_8)), (a21, .inl (cI, 3, .inl (fun j => nI (E j))))]) [1, 2, 3, 0] (by decide) rfl
        exact ih36 ((i - 1), e_8) H locs ls ⟨(by show (i - 1) ≤ E s9; omega), (gEz_fm hE2 hq_10 hq_9), (gFm_t hF2 hq_10 (by omega)), (gHd_s hB9 (by omega) (by omega) hsA9 hx92_0 (fun j9 a9 b9 => hq_10 _ (by omega))), hP, hD, hS, lv_sub hl [0, 2, 3, 4] rfl⟩ (by show (i - 1) < i; omega)
    · have c_6 : 0 < E s9 := Nat.pos_of_ne_zero (fun q9 => c_6i ((nI_leI (a := E s9) (b := 0) (by omega) (by decide)).mpr (Nat.le_of_eq q9)))
      refine lv_aload_n hx hb dX9_sortEnds_19 rfl (lv_at hl 2 rfl) ?_
      refine lv_iload_n hx hb dX9_sortEnds_20 rfl (lv_at hl 3 rfl) ?_
      refine lv_iload_n hx hb dX9_sortEnds_21 rfl (lv_at hl 0 rfl) ?_
      refine lv_iload_n hx hb dX9_sortEnds_22 rfl (lv_at hl 1 rfl) ?_
      obtain ⟨eB, hB9⟩ := hi11_3
      refine gx_gov (wc := [(h0, .inr (9, [v0, v1, v2, v3, v4, v5, v6, v7, v8, v9, v10, v11, .ref a12, v13, v14, v15, v16, v17, v18, v19, .ref a20, .ref a21, v22, v23, v24, v25, v26, v27, v28, v29, v30, v31, v32, v33, v34, v35, v36, v37, v38, v39, v40, v41, v42, v43, v44, v45, v46, v47, v48, v49, v50, v51])), (a12, .inl (cI, 522000, .inl sf)), (a20, .inl (cI, 9000, .inl g))]) (wr := [(a21, .inl (cI, 3, .inl (fun j => nI (E j))))]) (va_runV (As := [.int (nI s9), .int (nI (i - 1)), .int (nI (E s9))]) (rest := []) ⟨hx, hb, hml, hown, hts⟩ (x_sink9 l D cI cB cZ h0 a12 a20 (v0) (v1) (v2) (v3) (v4) (v5) (v6) (v7) (v8) (v9) (v10) (v11) (v13) (v14) (v15) (v16) (v17) (v18) (v19) (.ref a21) (v22) (v23) (v24) (v25) (v26) (v27) (v28) (v29) (v30) (v31) (v32) (v33) (v34) (v35) (v36) (v37) (v38) (v39) (v40) (v41) (v42) (v43) (v44) (v45) (v46) (v47) (v48) (v49) (v50) (v51) sf g s9 (i - 1) (E s9) sz eB (by omega) (by omega) (by omega) (by omega) hi11_1 (fun j9 h9 => ⟨hB9.2.1 j9 h9, by obtain ⟨t9, ht9, et9⟩ := hB9.1.1 j9 h9; rw [et9]; exact (heA t9 ht9).2⟩) hB9.1.2.2 (by rw [show i - 1 + 1 = i by omega]; exact hB9.2.2) _) (cwV 3 hts gP_x_sortEnds9__x_sink9 rfl rfl rfl (by decide +kernel) ⟨Nat.le_of_ble_eq_true rfl, Nat.le_of_ble_eq_true rfl⟩) (gx_preV (ci := 9) (q0 := 0) hK gN.nil hP hD [0, 1, 2] rfl rfl rfl rfl) rfl rfl hl.1 rfl (lv_room (Nat.le_of_ble_eq_true rfl)) dX9_sortEnds_23 ⟨Nat.le_of_ble_eq_true rfl, Nat.le_of_ble_eq_true rfl⟩) hP hD hS hA [0, 1, 2] [3] rfl rfl rfl (by decide) (fun w1 H locs hp hP hD hS => ?_)
      obtain ⟨e_11, hq_12, hq_13, hx23_0, rfl⟩ := hp
      have hq_12 : gEz e_11 (3000 * s9) (E s9) sz := hq_12
      have hq_13 : gFm e_11 g (3000 * s9) (E s9) := hq_13
      have hx23_0 : gSo (gTo sf s9) eB e_11 (3000 * s9) (E s9) (i - 1) := hx23_0
      refine lv_iinc (v := nI (i - 1) - 1) (lv' := [(3, .int (nI (i - 1) - 1)), (2, .int (nI (E s9))), (0, .ref h0), (1, .int (nI s9))]) hx hb dX9_sortEnds_26 hl (k := 0) rfl (gy_dec (i - 1)) (by decide) rfl (fun ls hl => ?_)
      refine lv_goto (tgt := 11) hx hb dX9_sortEnds_29 (by decide) ?_
      have hP : va_P D vwCl [(a21, .inl (cI, 3, .inl (fun j => nI (E j)))), (h0, .inr (9, [v0, v1, v2, v3, v4, v5, v6, v7, v8, v9, v10, v11, .ref a12, v13, v14, v15, v16, v17, v18, v19, .ref a20, .ref a21, v22, v23, v24, v25, v26, v27, v28, v29, v30, v31, v32, v33, v34, v35, v36, v37, v38, v39, v40, v41, v42, v43, v44, v45, v46, v47, v48, v49, v50, v51])), (a12, .inl (cI, 522000, .inl sf)), (a20, .inl (cI, 9000, .inl e_11))] H := hP
      have hD : va_D A [(a21, .inl (cI, 3, .inl (fun j => nI (E j)))), (h0, .inr (9, [v0, v1, v2, v3, v4, v5, v6, v7, v8, v9, v10, v11, .ref a12, v13, v14, v15, v16, v17, v18, v19, .ref a20, .ref a21, v22, v23, v24, v25, v26, v27, v28, v29, v30, v31, v32, v33, v34, v35, v36, v37, v38, v39, v40, v41, v42, v43, v44, v45, v46, v47, v48, v49, v50, v51])), (a12, .inl (cI, 522000, .inl sf)), (a20, .inl (cI, 9000, .inl e_11))] := hD
      have hP := hP.sub (ws' := [(h0, .inr (9, [v0, v1, v2, v3, v4, v5, v6, v7, v8, v9, v10, v11, .ref a12, v13, v14, v15, v16, v17, v18, v19, .ref a20, .ref a21, v22, v23, v24, v25, v26, v27, v28, v29, v30, v31, v32, v33, v34, v35, v36, v37, v38, v39, v40, v41, v42, v43, v44, v45, v46, v47, v48, v49, v50, v51])), (a12, .inl (cI, 522000, .inl sf)), (a20, .inl (cI, 9000, .inl e_11)), (a21, .inl (cI, 3, .inl (fun j => nI (E j))))]) [1, 2, 3, 0] rfl
      have hD := hD.sub (ws' := [(h0, .inr (9, [v0, v1, v2, v3, v4, v5, v6, v7, v8, v9, v10, v11, .ref a12, v13, v14, v15, v16, v17, v18, v19, .ref a20, .ref a21, v22, v23, v24, v25, v26, v27, v28, v29, v30, v31, v32, v33, v34, v35, v36, v37, v38, v39, v40, v41, v42, v43, v44, v45, v46, v47, v48, v49, v50, v51])), (a12, .inl (cI, 522000, .inl sf)), (a20, .inl (cI, 9000, .inl e_11)), (a21, .inl (cI, 3, .inl (fun j => nI (E j))))]) [1, 2, 3, 0] (by decide) rfl
      exact ih11 ((i - 1), e_11) H locs ls ⟨(by show (i - 1) ≤ (E s9) / 2 + 1; omega), hq_12, (gFm_t hi11_2 hq_13 (by omega)), (gHb_s hB9 hx23_0), hP, hD, hS, lv_sub hl [0, 1, 2, 3] rfl⟩ (by show (i - 1) < i; omega)
