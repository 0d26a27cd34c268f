theorem dX9_undo_0 : decode cX9_undo 0 = .ok (.aload_n 0, 1) := by decide +kernel
theorem dX9_undo_1 : decode cX9_undo 1 = .ok (.getfield 84, 3) := by decide +kernel
theorem dX9_undo_11 : decode cX9_undo 11 = .ok (.ifCond .ne 5, 3) := by decide +kernel
theorem dX9_undo_14 : decode cX9_undo 14 = .ok (.iconst 0, 1) := by decide +kernel
theorem dX9_undo_15 : decode cX9_undo 15 = .ok (.ireturn, 1) := by decide +kernel
theorem dX9_undo_16 : decode cX9_undo 16 = .ok (.aload_n 0, 1) := by decide +kernel
theorem dX9_undo_17 : decode cX9_undo 17 = .ok (.dup, 1) := by decide +kernel
theorem dX9_undo_18 : decode cX9_undo 18 = .ok (.getfield 227, 3) := by decide +kernel
theorem dX9_undo_21 : decode cX9_undo 21 = .ok (.iconst 1, 1) := by decide +kernel
theorem dX9_undo_22 : decode cX9_undo 22 = .ok (.isub, 1) := by decide +kernel
theorem dX9_undo_23 : decode cX9_undo 23 = .ok (.putfield 227, 3) := by decide +kernel
theorem dX9_undo_26 : decode cX9_undo 26 = .ok (.iconst 0, 1) := by decide +kernel
theorem dX9_undo_27 : decode cX9_undo 27 = .ok (.istore_n 1, 1) := by decide +kernel
theorem dX9_undo_28 : decode cX9_undo 28 = .ok (.iload_n 1, 1) := by decide +kernel
theorem dX9_undo_29 : decode cX9_undo 29 = .ok (.bipush 58, 2) := by decide +kernel
theorem dX9_undo_31 : decode cX9_undo 31 = .ok (.if_icmp .ge 29, 3) := by decide +kernel
theorem dX9_undo_34 : decode cX9_undo 34 = .ok (.aload_n 0, 1) := by decide +kernel
theorem dX9_undo_35 : decode cX9_undo 35 = .ok (.getfield 78, 3) := by decide +kernel
theorem dX9_undo_38 : decode cX9_undo 38 = .ok (.iload_n 1, 1) := by decide +kernel
theorem dX9_undo_39 : decode cX9_undo 39 = .ok (.aload_n 0, 1) := by decide +kernel
theorem dX9_undo_4 : decode cX9_undo 4 = .ok (.ifCond .lt 10, 3) := by decide +kernel
theorem dX9_undo_40 : decode cX9_undo 40 = .ok (.getfield 81, 3) := by decide +kernel
theorem dX9_undo_43 : decode cX9_undo 43 = .ok (.bipush 58, 2) := by decide +kernel
theorem dX9_undo_45 : decode cX9_undo 45 = .ok (.aload_n 0, 1) := by decide +kernel
theorem dX9_undo_46 : decode cX9_undo 46 = .ok (.getfield 227, 3) := by decide +kernel
theorem dX9_undo_49 : decode cX9_undo 49 = .ok (.imul, 1) := by decide +kernel
theorem dX9_undo_50 : decode cX9_undo 50 = .ok (.iload_n 1, 1) := by decide +kernel
theorem dX9_undo_51 : decode cX9_undo 51 = .ok (.iadd, 1) := by decide +kernel
theorem dX9_undo_52 : decode cX9_undo 52 = .ok (.iaload, 1) := by decide +kernel
theorem dX9_undo_53 : decode cX9_undo 53 = .ok (.iastore, 1) := by decide +kernel
theorem dX9_undo_54 : decode cX9_undo 54 = .ok (.iinc 1 1, 3) := by decide +kernel
theorem dX9_undo_57 : decode cX9_undo 57 = .ok (.goto (-29), 3) := by decide +kernel
theorem dX9_undo_60 : decode cX9_undo 60 = .ok (.iconst 1, 1) := by decide +kernel
theorem dX9_undo_61 : decode cX9_undo 61 = .ok (.ireturn, 1) := by decide +kernel
theorem dX9_undo_7 : decode cX9_undo 7 = .ok (.aload_n 0, 1) := by decide +kernel
theorem dX9_undo_8 : decode cX9_undo 8 = .ok (.getfield 227, 3) := by decide +kernel
def wsP_c_undo9 : List Cond := .code yX9_undo cX9_undo 2 (some .boolean) :: (([.fieldLink RX9 84 "LitmusHallModel" "machineMode" "I", .fieldLink RX9 227 "LitmusHallModel" "done" "I", .fieldLink RX9 78 "LitmusHallModel" "machine" "[I", .fieldLink RX9 81 "LitmusHallModel" "history" "[I"] ++ wsX90) ++ [])
set_option maxHeartbeats 4000000 in
set_option maxRecDepth 100000 in
theorem c_undo9 (l : Launch) (D : va_G) (cI cB cZ : ClassId) (h0 : Nat) (a23 : Nat) (a24 : Nat) (v0 : Value) (v1 : Value) (v2 : Value) (v3 : Value) (v4 : Value) (v5 : Value) (v6 : Value) (v7 : Value) (v8 : Value) (v9 : Value) (v10 : Value) (v11 : Value) (v12 : Value) (v13 : Value) (v14 : Value) (v15 : Value) (v16 : Value) (v17 : Value) (v18 : Value) (v19 : Value) (v20 : Value) (v21 : Value) (v22 : Value) (v27 : Value) (v28 : Value) (v29 : Value) (v30 : Value) (v31 : Value) (v32 : Value) (v33 : Value) (v34 : Value) (v35 : Value) (v36 : Value) (v37 : Value) (v38 : Value) (v39 : Value) (v40 : Value) (v41 : Value) (v42 : Value) (v43 : Value) (v44 : Value) (v45 : Value) (v46 : Value) (v47 : Value) (v48 : Value) (v49 : Value) (v50 : Value) (v51 : Value) (mo : Int32) (dn : Nat) (mf : Nat → Int32) (hf : Nat → Int32) (hdn : dn ≤ 50) : gMi l yX9_undo wsP_c_undo9 ({ frames := 0, cells := 0, slots := 0, locals := 0 }) D cI cB cZ [] [.ref h0] [(h0, .inr (9, [v0, v1, v2, v3, v4, v5, v6, v7, v8, v9, v10, v11, v12, v13, v14, v15, v16, v17, v18, v19, v20, v21, v22, .ref a23, .ref a24, .int (nI dn), .int mo, v27, v28, v29, v30, v31, v32, v33, v34, v35, v36, v37, v38, v39, v40, v41, v42, v43, v44, v45, v46, v47, v48, v49, v50, v51])), (a23, .inl (cI, 58, .inl mf)), (a24, .inl (cI, 2900, .inl hf))] (fun r9 w9 => ∃ z : Int32, ∃ dn9 : Nat, ∃ mf9 : Nat → Int32, ((z = 0 ∧ dn9 = dn ∧ mf9 = mf) ∨ (z = 1 ∧ 0 < dn ∧ dn9 = dn - 1 ∧ ∀ j, j < 58 → mf9 j = hf ((58 * (dn - 1)) + j))) ∧ r9 = z ∧ w9 = [(h0, .inr (9, [v0, v1, v2, v3, v4, v5, v6, v7, v8, v9, v10, v11, v12, v13, v14, v15, v16, v17, v18, v19, v20, v21, v22, .ref a23, .ref a24, .int (nI dn9), .int mo, v27, v28, v29, v30, v31, v32, v33, v34, v35, v36, v37, v38, v39, v40, v41, v42, v43, v44, v45, v46, v47, v48, v49, v50, v51])), (a23, .inl (cI, 58, .inl mf9)), (a24, .inl (cI, 2900, .inl hf))]) := by
  refine gMi.of (cc := cX9_undo) (maxL := 2) (ret := (some .boolean)) (by decide) rfl (Nat.le_of_ble_eq_true rfl) (fun p e s m below meth c A ls hx hb hr hlk hml hts hown hin hA hP hK hD hS hN hl => ?_)
  have hown : s.vm.findClass RX9 = some m.cls := hown
  have hl : lv_has ls 2 [(0, .ref h0)] := hl
  refine lv_aload_n hx hb dX9_undo_0 rfl (lv_at hl 0 rfl) ?_
  refine va_get (D := D) (ci := 9) (v := .int mo) (C := RX9) (T := TX9) (N := 52) hx hb hts (fun _ h => List.mem_cons_of_mem _ (List.mem_append_left _ (List.mem_append_right _ h))) hown hK hP 0 rfl rfl 26 (by decide) (hts (.fieldLink RX9 84 "LitmusHallModel" "machineMode" "I") (by decide +kernel)) (fun _ h9 => h9) rfl dX9_undo_1 ?_
  refine lv_if_lt (tgt := 14) hx hb dX9_undo_4 (by decide) (fun c_1 => ?_) (fun c_1 => ?_)
  · refine lv_iconst (v := 0) hx hb dX9_undo_14 (by decide) ?_
    exact gx_zret (w' := [(h0, .inr (9, [v0, v1, v2, v3, v4, v5, v6, v7, v8, v9, v10, v11, v12, v13, v14, v15, v16, v17, v18, v19, v20, v21, v22, .ref a23, .ref a24, .int (nI dn), .int mo, v27, v28, v29, v30, v31, v32, v33, v34, v35, v36, v37, v38, v39, v40, v41, v42, v43, v44, v45, v46, v47, v48, v49, v50, v51])), (a23, .inl (cI, 58, .inl mf)), (a24, .inl (cI, 2900, .inl hf))]) hx hb hr hlk hK hP hD hS (Nat.le_of_ble_eq_true rfl) (Nat.le_of_ble_eq_true rfl) dX9_undo_15 rfl ⟨0, dn, mf, (Or.inl ⟨rfl, rfl, rfl⟩), rfl, rfl⟩
  · refine lv_aload_n hx hb dX9_undo_7 rfl (lv_at hl 0 rfl) ?_
    refine va_get (D := D) (ci := 9) (v := .int (nI dn)) (C := RX9) (T := TX9) (N := 52) hx hb hts (fun _ h => List.mem_cons_of_mem _ (List.mem_append_left _ (List.mem_append_right _ h))) hown hK hP 0 rfl rfl 25 (by decide) (hts (.fieldLink RX9 227 "LitmusHallModel" "done" "I") (by decide +kernel)) (fun _ h9 => h9) rfl dX9_undo_8 ?_
    refine lv_if_ne (tgt := 16) hx hb dX9_undo_11 (by decide) (fun c_2i => ?_) (fun c_2i => ?_)
    · have c_2 : dn ≠ 0 := fun q9 => c_2i ((nI_eq (a := dn) (b := 0) (by omega) (by decide)).mpr q9)
      refine lv_aload_n hx hb dX9_undo_16 rfl (lv_at hl 0 rfl) ?_
      refine lv_dup hx hb dX9_undo_17 rfl ?_
      refine va_get (D := D) (ci := 9) (v := .int (nI dn)) (C := RX9) (T := TX9) (N := 52) hx hb hts (fun _ h => List.mem_cons_of_mem _ (List.mem_append_left _ (List.mem_append_right _ h))) hown hK hP 0 rfl rfl 25 (by decide) (hts (.fieldLink RX9 227 "LitmusHallModel" "done" "I") (by decide +kernel)) (fun _ h9 => h9) rfl dX9_undo_18 ?_
      refine lv_iconst (v := 1) hx hb dX9_undo_21 (by decide) ?_
      refine lv_isub hx hb dX9_undo_22 ?_
      refine gx_top (y := nI (dn - 1)) (pk_sub (a := dn) (b := 1) (by omega)) ?_
      refine va_put (D := D) (ci := 9) (v := .int (nI (dn - 1))) (ty := .int) (C := RX9) (T := TX9) (N := 52) hx hb hts (fun _ h => List.mem_cons_of_mem _ (List.mem_append_left _ (List.mem_append_right _ h))) tyX9 tyX9_ok nmX9 hown hK hP hD hS 0 rfl rfl 25 (by decide) (hts (.fieldLink RX9 227 "LitmusHallModel" "done" "I") (by decide +kernel)) (fun _ h9 => h9) rfl (by decide +kernel) rfl rfl (Nat.le_of_ble_eq_true rfl) dX9_undo_23 (fun H locs hP hD hS => ?_)
      have hP : va_P D vwCl [(h0, .inr (9, [v0, v1, v2, v3, v4, v5, v6, v7, v8, v9, v10, v11, v12, v13, v14, v15, v16, v17, v18, v19, v20, v21, v22, .ref a23, .ref a24, .int (nI (dn - 1)), .int mo, v27, v28, v29, v30, v31, v32, v33, v34, v35, v36, v37, v38, v39, v40, v41, v42, v43, v44, v45, v46, v47, v48, v49, v50, v51])), (a23, .inl (cI, 58, .inl mf)), (a24, .inl (cI, 2900, .inl hf))] H := hP
      have hD : va_D A [(h0, .inr (9, [v0, v1, v2, v3, v4, v5, v6, v7, v8, v9, v10, v11, v12, v13, v14, v15, v16, v17, v18, v19, v20, v21, v22, .ref a23, .ref a24, .int (nI (dn - 1)), .int mo, v27, v28, v29, v30, v31, v32, v33, v34, v35, v36, v37, v38, v39, v40, v41, v42, v43, v44, v45, v46, v47, v48, v49, v50, v51])), (a23, .inl (cI, 58, .inl mf)), (a24, .inl (cI, 2900, .inl hf))] := hD
      refine lv_iconst (v := 0) hx hb dX9_undo_26 (by decide) ?_
      refine lv_istore_n (lv' := [(1, .int 0), (0, .ref h0)]) hx hb dX9_undo_27 rfl hl (by decide) rfl (fun ls hl => ?_)
      refine gy_loop0 (I := fun (x9 : Nat × (Nat → Int32)) H locs ls => (x9.1 ≤ 58) ∧ (∀ j, j < x9.1 → x9.2 j = hf ((58 * (dn - 1)) + j)) ∧ va_P D vwCl [(h0, .inr (9, [v0, v1, v2, v3, v4, v5, v6, v7, v8, v9, v10, v11, v12, v13, v14, v15, v16, v17, v18, v19, v20, v21, v22, .ref a23, .ref a24, .int (nI (dn - 1)), .int mo, v27, v28, v29, v30, v31, v32, v33, v34, v35, v36, v37, v38, v39, v40, v41, v42, v43, v44, v45, v46, v47, v48, v49, v50, v51])), (a23, .inl (cI, 58, .inl x9.2)), (a24, .inl (cI, 2900, .inl hf))] H ∧ va_D A [(h0, .inr (9, [v0, v1, v2, v3, v4, v5, v6, v7, v8, v9, v10, v11, v12, v13, v14, v15, v16, v17, v18, v19, v20, v21, v22, .ref a23, .ref a24, .int (nI (dn - 1)), .int mo, v27, v28, v29, v30, v31, v32, v33, v34, v35, v36, v37, v38, v39, v40, v41, v42, v43, v44, v45, v46, v47, v48, v49, v50, v51])), (a23, .inl (cI, 58, .inl x9.2)), (a24, .inl (cI, 2900, .inl hf))] ∧ va_S A s.heap H locs ∧ lv_has ls 2 [(1, .int (nI x9.1)), (0, .ref h0)]) (μ := fun (x9 : Nat × (Nat → Int32)) => 58 - x9.1) (fun x9 H locs ls hI ih28 => ?_) (0, mf) ⟨(by show 0 ≤ 58; omega), (fun j h => absurd h (Nat.not_lt_zero j)), hP, hD, hS, lv_sub hl [0, 1] rfl⟩
      obtain ⟨i, g⟩ := x9
      obtain ⟨hi28_0, hi28_1, hP, hD, hS, hl⟩ := hI
      have hi28_0 : i ≤ 58 := hi28_0
      have hi28_1 : ∀ j, j < i → g j = hf ((58 * (dn - 1)) + j) := hi28_1
      have hP : va_P D vwCl [(h0, .inr (9, [v0, v1, v2, v3, v4, v5, v6, v7, v8, v9, v10, v11, v12, v13, v14, v15, v16, v17, v18, v19, v20, v21, v22, .ref a23, .ref a24, .int (nI (dn - 1)), .int mo, v27, v28, v29, v30, v31, v32, v33, v34, v35, v36, v37, v38, v39, v40, v41, v42, v43, v44, v45, v46, v47, v48, v49, v50, v51])), (a23, .inl (cI, 58, .inl g)), (a24, .inl (cI, 2900, .inl hf))] H := hP
      have hD : va_D A [(h0, .inr (9, [v0, v1, v2, v3, v4, v5, v6, v7, v8, v9, v10, v11, v12, v13, v14, v15, v16, v17, v18, v19, v20, v21, v22, .ref a23, .ref a24, .int (nI (dn - 1)), .int mo, v27, v28, v29, v30, v31, v32, v33, v34, v35, v36, v37, v38, v39, v40, v41, v42, v43, v44, v45, v46, v47, v48, v49, v50, v51])), (a23, .inl (cI, 58, .inl g)), (a24, .inl (cI, 2900, .inl hf))] := hD
      have hS : va_S A s.heap H locs := hS
      have hl : lv_has ls 2 [(1, .int (nI i)), (0, .ref h0)] := hl
      refine lv_iload_n hx hb dX9_undo_28 rfl (lv_at hl 0 rfl) ?_
      refine lv_bipush (v := 58) hx hb dX9_undo_29 (by decide) ?_
      refine gy_ge (a := i) (b := 58) (tgt := 60) hx hb (by omega) (by omega) dX9_undo_31 (by decide) (fun c_3 => ?_) (fun c_3 => ?_)
      · refine lv_iconst (v := 1) hx hb dX9_undo_60 (by decide) ?_
        exact gx_zret (w' := [(h0, .inr (9, [v0, v1, v2, v3, v4, v5, v6, v7, v8, v9, v10, v11, v12, v13, v14, v15, v16, v17, v18, v19, v20, v21, v22, .ref a23, .ref a24, .int (nI (dn - 1)), .int mo, v27, v28, v29, v30, v31, v32, v33, v34, v35, v36, v37, v38, v39, v40, v41, v42, v43, v44, v45, v46, v47, v48, v49, v50, v51])), (a23, .inl (cI, 58, .inl g)), (a24, .inl (cI, 2900, .inl hf))]) hx hb hr hlk hK hP hD hS (Nat.le_of_ble_eq_true rfl) (Nat.le_of_ble_eq_true rfl) dX9_undo_61 rfl ⟨1, (dn - 1), g, (Or.inr ⟨rfl, by omega, rfl, fun j h => hi28_1 j (by omega)⟩), rfl, rfl⟩
      · refine lv_aload_n hx hb dX9_undo_34 rfl (lv_at hl 1 rfl) ?_
        refine va_get (D := D) (ci := 9) (v := .ref a23) (C := RX9) (T := TX9) (N := 52) hx hb hts (fun _ h => List.mem_cons_of_mem _ (List.mem_append_left _ (List.mem_append_right _ h))) hown hK hP 0 rfl rfl 23 (by decide) (hts (.fieldLink RX9 78 "LitmusHallModel" "machine" "[I") (by decide +kernel)) (fun _ h9 => h9) rfl dX9_undo_35 ?_
        refine lv_iload_n hx hb dX9_undo_38 rfl (lv_at hl 0 rfl) ?_
        refine lv_aload_n hx hb dX9_undo_39 rfl (lv_at hl 1 rfl) ?_
        refine va_get (D := D) (ci := 9) (v := .ref a24) (C := RX9) (T := TX9) (N := 52) hx hb hts (fun _ h => List.mem_cons_of_mem _ (List.mem_append_left _ (List.mem_append_right _ h))) hown hK hP 0 rfl rfl 24 (by decide) (hts (.fieldLink RX9 81 "LitmusHallModel" "history" "[I") (by decide +kernel)) (fun _ h9 => h9) rfl dX9_undo_40 ?_
        refine lv_bipush (v := 58) hx hb dX9_undo_43 (by decide) ?_
        refine lv_aload_n hx hb dX9_undo_45 rfl (lv_at hl 1 rfl) ?_
        refine va_get (D := D) (ci := 9) (v := .int (nI (dn - 1))) (C := RX9) (T := TX9) (N := 52) hx hb hts (fun _ h => List.mem_cons_of_mem _ (List.mem_append_left _ (List.mem_append_right _ h))) hown hK hP 0 rfl rfl 25 (by decide) (hts (.fieldLink RX9 227 "LitmusHallModel" "done" "I") (by decide +kernel)) (fun _ h9 => h9) rfl dX9_undo_46 ?_
        refine lv_imul hx hb dX9_undo_49 ?_
        refine gx_top (y := nI (58 * (dn - 1))) (pk_mul 58 (dn - 1)) ?_
        refine lv_iload_n hx hb dX9_undo_50 rfl (lv_at hl 0 rfl) ?_
        refine lv_iadd hx hb dX9_undo_51 ?_
        refine gx_top (y := nI ((58 * (dn - 1)) + i)) (nI_add (58 * (dn - 1)) i) ?_
        refine gy_ild (i := ((58 * (dn - 1)) + i)) hx hb hK hP 2 rfl (by omega) (by omega) dX9_undo_52 ?_
        refine gy_ist (i := i) hx hb hK hP hD hS 1 rfl (by omega) (by omega) dX9_undo_53 (fun H locs hP hD hS => ?_)
        have hP : va_P D vwCl [(h0, .inr (9, [v0, v1, v2, v3, v4, v5, v6, v7, v8, v9, v10, v11, v12, v13, v14, v15, v16, v17, v18, v19, v20, v21, v22, .ref a23, .ref a24, .int (nI (dn - 1)), .int mo, v27, v28, v29, v30, v31, v32, v33, v34, v35, v36, v37, v38, v39, v40, v41, v42, v43, v44, v45, v46, v47, v48, v49, v50, v51])), (a23, .inl (cI, 58, .inl (upd g i (hf ((58 * (dn - 1)) + i))))), (a24, .inl (cI, 2900, .inl hf))] H := hP
        have hD : va_D A [(h0, .inr (9, [v0, v1, v2, v3, v4, v5, v6, v7, v8, v9, v10, v11, v12, v13, v14, v15, v16, v17, v18, v19, v20, v21, v22, .ref a23, .ref a24, .int (nI (dn - 1)), .int mo, v27, v28, v29, v30, v31, v32, v33, v34, v35, v36, v37, v38, v39, v40, v41, v42, v43, v44, v45, v46, v47, v48, v49, v50, v51])), (a23, .inl (cI, 58, .inl (upd g i (hf ((58 * (dn - 1)) + i))))), (a24, .inl (cI, 2900, .inl hf))] := hD
        refine lv_iinc (v := nI (i + 1)) (lv' := [(1, .int (nI (i + 1))), (0, .ref h0)]) hx hb dX9_undo_54 hl (k := 0) rfl (nI_add i 1) (by decide) rfl (fun ls hl => ?_)
        refine lv_goto (tgt := 28) hx hb dX9_undo_57 (by decide) ?_
        exact ih28 ((i + 1), (upd g i (hf ((58 * (dn - 1)) + i)))) H locs ls ⟨(by show (i + 1) ≤ 58; omega), (gy_cpl (f := fun j => hf ((58 * (dn - 1)) + j)) hi28_1), hP, hD, hS, lv_sub hl [0, 1] rfl⟩ (by show 58 - (i + 1) < 58 - i; omega)
    · have c_2 : dn = 0 := (nI_eq (a := dn) (b := 0) (by omega) (by decide)).mp c_2i
      refine lv_iconst (v := 0) hx hb dX9_undo_14 (by decide) ?_
      exact gx_zret (w' := [(h0, .inr (9, [v0, v1, v2, v3, v4, v5, v6, v7, v8, v9, v10, v11, v12, v13, v14, v15, v16, v17, v18, v19, v20, v21, v22, .ref a23, .ref a24, .int (nI dn), .int mo, v27, v28, v29, v30, v31, v32, v33, v34, v35, v36, v37, v38, v39, v40, v41, v42, v43, v44, v45, v46, v47, v48, v49, v50, v51])), (a23, .inl (cI, 58, .inl mf)), (a24, .inl (cI, 2900, .inl hf))]) hx hb hr hlk hK hP hD hS (Nat.le_of_ble_eq_true rfl) (Nat.le_of_ble_eq_true rfl) dX9_undo_15 rfl ⟨0, dn, mf, (Or.inl ⟨rfl, rfl, rfl⟩), rfl, rfl⟩
