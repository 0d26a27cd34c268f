
def wsP_x_sum9 : List Cond := .code yX9_sum cX9_sum 5 (some .int) :: (([.constantLong RX9 289 (7), .constantLong RX9 291 (1000003)]) ++ [])
theorem gW_x_sum9 : wsP_x_sum9.all goodWord = true := by unfold wsP_x_sum9; exact gw_mk (by decide +kernel) rfl
set_option maxHeartbeats 4000000 in
set_option maxRecDepth 100000 in
theorem x_sum9 (l : Launch) (D : va_G) (cI cB cZ : ClassId) (a : Nat) (n : Nat) (f : Nat → Int32) (t : Nat) (h1 : t + 58 ≤ n) (h2 : n ≤ 522000) : gMi l yX9_sum wsP_x_sum9 ({ frames := 0, cells := 0, slots := 0, locals := 0 }) D cI cB cZ [] [.ref a, .int (nI t)] [(a, .inl (cI, n, .inl f))] (fun r9 w9 => ∃ j : Nat, (j < 4096) ∧ (j = gSu (fun u9 => f (t + u9))) ∧ r9 = (nI j) ∧ w9 = [(a, .inl (cI, n, .inl f))]) := by
  refine gMi.of (cc := cX9_sum) (maxL := 5) (ret := (some .int)) (by decide) rfl (Nat.le_of_ble_eq_true rfl) (fun p e s m below meth c A ls hx hb hr hlk hml hts hown hin hA hP hK hD hS hN hl => ?_)
  have hown : s.vm.findClass RX9 = some m.cls := hown
  have hl : lv_has ls 5 [(0, .ref a), (1, .int (nI t))] := hl
  refine lv_ldc2 hx hb hown (hts (.constantLong RX9 289 (7)) (by decide +kernel)) dX9_sum_0 ?_
  refine lv_lstore_n (lv' := [(2, .long 7), (0, .ref a), (1, .int (nI t))]) hx hb dX9_sum_3 rfl hl (by decide) rfl (fun ls hl => ?_)
  refine lv_iconst (v := 0) hx hb dX9_sum_4 (by decide) ?_
  refine lv_istore (lv' := [(4, .int 0), (2, .long 7), (0, .ref a), (1, .int (nI t))]) hx hb dX9_sum_5 hl (by decide) rfl (fun ls hl => ?_)
  refine gy_loop0 (I := fun (x9 : Nat × Int64) H locs ls => (x9.1 ≤ 58) ∧ (x9.2 = gH9 (fun u9 => f (t + u9)) x9.1) ∧ va_P D vwCl [(a, .inl (cI, n, .inl f))] H ∧ va_D A [(a, .inl (cI, n, .inl f))] ∧ va_S A s.heap H locs ∧ lv_has ls 5 [(4, .int (nI x9.1)), (2, .long x9.2), (0, .ref a), (1, .int (nI t))]) (μ := fun (x9 : Nat × Int64) => 58 - x9.1) (fun x9 H locs ls hI ih7 => ?_) (0, 7) ⟨(by show 0 ≤ 58; exact Nat.le_of_ble_eq_true rfl), rfl, hP, hD, hS, lv_sub hl [0, 1, 2, 3] rfl⟩
  obtain ⟨i, w⟩ := x9
  obtain ⟨hi7_0, hi7_1, hP, hD, hS, hl⟩ := hI
  have hi7_0 : i ≤ 58 := hi7_0
  have hi7_1 : w = gH9 (fun u9 => f (t + u9)) i := hi7_1
  have hP : va_P D vwCl [(a, .inl (cI, n, .inl f))] H := hP
  have hD : va_D A [(a, .inl (cI, n, .inl f))] := hD
  have hS : va_S A s.heap H locs := hS
  have hl : lv_has ls 5 [(4, .int (nI i)), (2, .long w), (0, .ref a), (1, .int (nI t))] := hl
  refine lv_iload hx hb dX9_sum_7 (lv_at hl 0 rfl) ?_
  refine lv_bipush (v := 58) hx hb dX9_sum_9 (by decide) ?_
  refine gy_ge (a := i) (b := 58) (tgt := 34) hx hb (by omega) (by omega) dX9_sum_11 (by decide) (fun c_1 => ?_) (fun c_1 => ?_)
  · refine lv_lload_n hx hb dX9_sum_34 rfl (lv_at hl 1 rfl) ?_
    refine lv_lload_n hx hb dX9_sum_35 rfl (lv_at hl 1 rfl) ?_
    refine lv_bipush (v := 23) hx hb dX9_sum_36 (by decide) ?_
    refine lv_lushr hx hb dX9_sum_38 rfl ?_
    refine lv_lxor hx hb dX9_sum_39 ?_
    refine lv_lload_n hx hb dX9_sum_40 rfl (lv_at hl 1 rfl) ?_
    refine lv_bipush (v := 41) hx hb dX9_sum_41 (by decide) ?_
    refine lv_lushr hx hb dX9_sum_43 rfl ?_
    refine lv_lxor hx hb dX9_sum_44 ?_
    refine lv_l2i (v := ((w ^^^ (((w).toUInt64 >>> ((23 : Int32).toInt64.toUInt64 &&& Int64.toUInt64 63)).toInt64)) ^^^ (((w).toUInt64 >>> ((41 : Int32).toInt64.toUInt64 &&& Int64.toUInt64 63)).toInt64)).toInt32) hx hb dX9_sum_45 rfl ?_
    refine lv_sipush (v := 4095) hx hb dX9_sum_46 (by decide) ?_
    refine lv_iand hx hb dX9_sum_49 ?_
    refine gx_top (pk_and (((w ^^^ (((w).toUInt64 >>> ((23 : Int32).toInt64.toUInt64 &&& Int64.toUInt64 63)).toInt64)) ^^^ (((w).toUInt64 >>> ((41 : Int32).toInt64.toUInt64 &&& Int64.toUInt64 63)).toInt64)).toInt32) (m := 4095) 12 (by decide +kernel)) ?_
    have hj2 : (((w ^^^ (((w).toUInt64 >>> ((23 : Int32).toInt64.toUInt64 &&& Int64.toUInt64 63)).toInt64)) ^^^ (((w).toUInt64 >>> ((41 : Int32).toInt64.toUInt64 &&& Int64.toUInt64 63)).toInt64)).toInt32).toBitVec.toNat % 4096 < 4096 := Nat.mod_lt _ (by decide)
    exact gx_iret (w' := [(a, .inl (cI, n, .inl f))]) hx hb hr hlk hK hP hD hS (Nat.le_of_ble_eq_true rfl) (Nat.le_of_ble_eq_true rfl) dX9_sum_50 ⟨((((w ^^^ (((w).toUInt64 >>> ((23 : Int32).toInt64.toUInt64 &&& Int64.toUInt64 63)).toInt64)) ^^^ (((w).toUInt64 >>> ((41 : Int32).toInt64.toUInt64 &&& Int64.toUInt64 63)).toInt64)).toInt32).toBitVec.toNat % 4096), (by omega), (by have e9 : i = 58 := (by omega); subst e9; unfold gSu; rw [← hi7_1]; rfl), rfl, rfl⟩
  · refine lv_lload_n hx hb dX9_sum_14 rfl (lv_at hl 1 rfl) ?_
    refine lv_ldc2 hx hb hown (hts (.constantLong RX9 291 (1000003)) (by decide +kernel)) dX9_sum_15 ?_
    refine lv_lmul hx hb dX9_sum_18 ?_
    refine lv_aload_n hx hb dX9_sum_19 rfl (lv_at hl 2 rfl) ?_
    refine lv_iload_n hx hb dX9_sum_20 rfl (lv_at hl 3 rfl) ?_
    refine lv_iload hx hb dX9_sum_21 (lv_at hl 0 rfl) ?_
    refine lv_iadd hx hb dX9_sum_23 ?_
    refine gx_top (y := nI (t + i)) (nI_add t i) ?_
    refine gy_ild (i := (t + i)) hx hb hK hP 0 rfl (by omega) (by omega) dX9_sum_24 ?_
    refine lv_i2l hx hb dX9_sum_25 rfl ?_
    refine lv_ladd hx hb dX9_sum_26 ?_
    refine lv_lstore_n (lv' := [(2, .long ((w * 1000003) + ((f (t + i)).toInt64))), (4, .int (nI i)), (0, .ref a), (1, .int (nI t))]) hx hb dX9_sum_27 rfl hl (by decide) rfl (fun ls hl => ?_)
    refine lv_iinc (v := nI (i + 1)) (lv' := [(4, .int (nI (i + 1))), (2, .long ((w * 1000003) + ((f (t + i)).toInt64))), (0, .ref a), (1, .int (nI t))]) hx hb dX9_sum_28 hl (k := 1) rfl (nI_add i 1) (by decide) rfl (fun ls hl => ?_)
    refine lv_goto (tgt := 7) hx hb dX9_sum_31 (by decide) ?_
    exact ih7 ((i + 1), ((w * 1000003) + ((f (t + i)).toInt64))) H locs ls ⟨(by show (i + 1) ≤ 58; omega), (by rw [hi7_1]; rfl), hP, hD, hS, lv_sub hl [0, 1, 2, 3] rfl⟩ (by show 58 - (i + 1) < 58 - i; omega)
def wsP_x_isNow9 : List Cond := .code yX9_isNow cX9_isNow 5 (some .boolean) :: (([.fieldLink RX9 44 "LitmusHallModel" "state" "[I", .fieldLink RX9 75 "LitmusHallModel" "now" "[I"] ++ wsX90) ++ [])
theorem gW_x_isNow9 : wsP_x_isNow9.all goodWord = true := by unfold wsP_x_isNow9; exact gw_mk (by decide +kernel) rfl
set_option maxHeartbeats 4000000 in
set_option maxRecDepth 100000 in
theorem x_isNow9 (l : Launch) (D : va_G) (cI cB cZ : ClassId) (h0 : Nat) (a12 : Nat) (a22 : Nat) (v0 : Value) (v1 : Value) (v2 : Value) (v3 : Value) (v4 : Value) (v5 : Value) (v6 : Value) (v7 : Value) (v8 : Value) (v9 : Value) (v10 : Value) (v11 : Value) (v13 : Value) (v14 : Value) (v15 : Value) (v16 : Value) (v17 : Value) (v18 : Value) (v19 : Value) (v20 : Value) (v21 : Value) (v23 : Value) (v24 : Value) (v25 : Value) (v26 : Value) (v27 : Value) (v28 : Value) (v29 : Value) (v30 : Value) (v31 : Value) (v32 : Value) (v33 : Value) (v34 : Value) (v35 : Value) (v36 : Value) (v37 : Value) (v38 : Value) (v39 : Value) (v40 : Value) (v41 : Value) (v42 : Value) (v43 : Value) (v44 : Value) (v45 : Value) (v46 : Value) (v47 : Value) (v48 : Value) (v49 : Value) (v50 : Value) (v51 : Value) (sf : Nat → Int32) (nw : Nat → Int32) (s9 : Nat) (n : Nat) (hs : s9 < 3) (hn : n < 3000) : gMi l yX9_isNow wsP_x_isNow9 ({ frames := 0, cells := 0, slots := 0, locals := 0 }) D cI cB cZ [] [.ref h0, .int (nI s9), .int (nI n)] [(h0, .inr (9, [v0, v1, v2, v3, v4, v5, v6, v7, v8, v9, v10, v11, .ref a12, v13, v14, v15, v16, v17, v18, v19, v20, v21, .ref a22, v23, v24, v25, v26, v27, v28, v29, v30, v31, v32, v33, v34, v35, v36, v37, v38, v39, v40, v41, v42, v43, v44, v45, v46, v47, v48, v49, v50, v51])), (a12, .inl (cI, 522000, .inl sf)), (a22, .inl (cI, 58, .inl nw))] (fun r9 w9 => ∃ z : Int32, (z = 0 ∨ z = 1) ∧ ((z = 1 ∧ gAg 58 (gR9 sf s9 n) nw) ∨ (z = 0 ∧ ¬ gAg 58 (gR9 sf s9 n) nw)) ∧ r9 = z ∧ w9 = [(h0, .inr (9, [v0, v1, v2, v3, v4, v5, v6, v7, v8, v9, v10, v11, .ref a12, v13, v14, v15, v16, v17, v18, v19, v20, v21, .ref a22, v23, v24, v25, v26, v27, v28, v29, v30, v31, v32, v33, v34, v35, v36, v37, v38, v39, v40, v41, v42, v43, v44, v45, v46, v47, v48, v49, v50, v51])), (a12, .inl (cI, 522000, .inl sf)), (a22, .inl (cI, 58, .inl nw))]) := by
  refine gMi.of (cc := cX9_isNow) (maxL := 5) (ret := (some .boolean)) (by decide) rfl (Nat.le_of_ble_eq_true rfl) (fun p e s m below meth c A ls hx hb hr hlk hml hts hown hin hA hP hK hD hS hN hl => ?_)
  have hown : s.vm.findClass RX9 = some m.cls := hown
  have hl : lv_has ls 5 [(0, .ref h0), (1, .int (nI s9)), (2, .int (nI n))] := hl
  refine lv_sipush (v := 3000) hx hb dX9_isNow_0 (by decide) ?_
  refine lv_iload_n hx hb dX9_isNow_3 rfl (lv_at hl 1 rfl) ?_
  refine lv_imul hx hb dX9_isNow_4 ?_
  refine gx_top (y := nI (3000 * s9)) (pk_mul 3000 s9) ?_
  refine lv_iload_n hx hb dX9_isNow_5 rfl (lv_at hl 2 rfl) ?_
  refine lv_iadd hx hb dX9_isNow_6 ?_
  refine gx_top (y := nI ((3000 * s9) + n)) (nI_add (3000 * s9) n) ?_
  refine lv_bipush (v := 58) hx hb dX9_isNow_7 (by decide) ?_
  refine lv_imul hx hb dX9_isNow_9 ?_
  refine gx_top (y := nI (((3000 * s9) + n) * 58)) (pk_mul ((3000 * s9) + n) 58) ?_
  refine lv_istore_n (lv' := [(3, .int (nI (((3000 * s9) + n) * 58))), (0, .ref h0), (1, .int (nI s9)), (2, .int (nI n))]) hx hb dX9_isNow_10 rfl hl (by decide) rfl (fun ls hl => ?_)
  refine lv_iconst (v := 0) hx hb dX9_isNow_11 (by decide) ?_
  refine lv_istore (lv' := [(4, .int 0), (3, .int (nI (((3000 * s9) + n) * 58))), (0, .ref h0), (1, .int (nI s9)), (2, .int (nI n))]) hx hb dX9_isNow_12 hl (by decide) rfl (fun ls hl => ?_)
  refine gy_loop0 (I := fun (x9 : Nat) H locs ls => (x9 ≤ 58) ∧ (∀ j, j < x9 → sf ((((3000 * s9) + n) * 58) + j) = nw j) ∧ va_P D vwCl [(h0, .inr (9, [v0, v1, v2, v3, v4, v5, v6, v7, v8, v9, v10, v11, .ref a12, v13, v14, v15, v16, v17, v18, v19, v20, v21, .ref a22, v23, v24, v25, v26, v27, v28, v29, v30, v31, v32, v33, v34, v35, v36, v37, v38, v39, v40, v41, v42, v43, v44, v45, v46, v47, v48, v49, v50, v51])), (a12, .inl (cI, 522000, .inl sf)), (a22, .inl (cI, 58, .inl nw))] H ∧ va_D A [(h0, .inr (9, [v0, v1, v2, v3, v4, v5, v6, v7, v8, v9, v10, v11, .ref a12, v13, v14, v15, v16, v17, v18, v19, v20, v21, .ref a22, v23, v24, v25, v26, v27, v28, v29, v30, v31, v32, v33, v34, v35, v36, v37, v38, v39, v40, v41, v42, v43, v44, v45, v46, v47, v48, v49, v50, v51])), (a12, .inl (cI, 522000, .inl sf)), (a22, .inl (cI, 58, .inl nw))] ∧ va_S A s.heap H locs ∧ lv_has ls 5 [(4, .int (nI x9)), (3, .int (nI (((3000 * s9) + n) * 58))), (0, .ref h0), (1, .int (nI s9)), (2, .int (nI n))]) (μ := fun (x9 : Nat) => 58 - x9) (fun x9 H locs ls hI ih14 => ?_) 0 ⟨(by show 0 ≤ 58; exact Nat.le_of_ble_eq_true rfl), (fun j h => absurd h (Nat.not_lt_zero j)), hP, hD, hS, lv_sub hl [0, 1, 2, 3, 4] rfl⟩
  obtain ⟨i, rfl⟩ : ∃ z9, z9 = x9 := ⟨_, rfl⟩
  obtain ⟨hi14_0, hi14_1, hP, hD, hS, hl⟩ := hI
  have hi14_0 : i ≤ 58 := hi14_0
  have hi14_1 : ∀ j, j < i → sf ((((3000 * s9) + n) * 58) + j) = nw j := hi14_1
  have hP : va_P D vwCl [(h0, .inr (9, [v0, v1, v2, v3, v4, v5, v6, v7, v8, v9, v10, v11, .ref a12, v13, v14, v15, v16, v17, v18, v19, v20, v21, .ref a22, v23, v24, v25, v26, v27, v28, v29, v30, v31, v32, v33, v34, v35, v36, v37, v38, v39, v40, v41, v42, v43, v44, v45, v46, v47, v48, v49, v50, v51])), (a12, .inl (cI, 522000, .inl sf)), (a22, .inl (cI, 58, .inl nw))] H := hP
  have hD : va_D A [(h0, .inr (9, [v0, v1, v2, v3, v4, v5, v6, v7, v8, v9, v10, v11, .ref a12, v13, v14, v15, v16, v17, v18, v19, v20, v21, .ref a22, v23, v24, v25, v26, v27, v28, v29, v30, v31, v32, v33, v34, v35, v36, v37, v38, v39, v40, v41, v42, v43, v44, v45, v46, v47, v48, v49, v50, v51])), (a12, .inl (cI, 522000, .inl sf)), (a22, .inl (cI, 58, .inl nw))] := hD
  have hS : va_S A s.heap H locs := hS
  have hl : lv_has ls 5 [(4, .int (nI i)), (3, .int (nI (((3000 * s9) + n) * 58))), (0, .ref h0), (1, .int (nI s9)), (2, .int (nI n))] := hl
  refine lv_iload hx hb dX9_isNow_14 (lv_at hl 0 rfl) ?_
  refine lv_bipush (v := 58) hx hb dX9_isNow_16 (by decide) ?_
  refine gy_ge (a := i) (b := 58) (tgt := 48) hx hb (by omega) (by omega) dX9_isNow_18 (by decide) (fun c_1 => ?_) (fun c_1 => ?_)
  · refine lv_iconst (v := 1) hx hb dX9_isNow_48 (by decide) ?_
    exact gx_zret (w' := [(h0, .inr (9, [v0, v1, v2, v3, v4, v5, v6, v7, v8, v9, v10, v11, .ref a12, v13, v14, v15, v16, v17, v18, v19, v20, v21, .ref a22, v23, v24, v25, v26, v27, v28, v29, v30, v31, v32, v33, v34, v35, v36, v37, v38, v39, v40, v41, v42, v43, v44, v45, v46, v47, v48, v49, v50, v51])), (a12, .inl (cI, 522000, .inl sf)), (a22, .inl (cI, 58, .inl nw))]) hx hb hr hlk hK hP hD hS (Nat.le_of_ble_eq_true rfl) (Nat.le_of_ble_eq_true rfl) dX9_isNow_49 rfl ⟨1, (by decide), (Or.inl ⟨rfl, fun j h => hi14_1 j (by omega)⟩), rfl, rfl⟩
  · refine lv_aload_n hx hb dX9_isNow_21 rfl (lv_at hl 2 rfl) ?_
    refine va_get (D := D) (ci := 9) (v := .ref a12) (C := RX9) (T := TX9) (N := 52) hx hb hts (fun _ h => List.mem_cons_of_mem _ (List.mem_append_left _ (List.mem_append_right _ h))) hown hK hP 0 rfl rfl 12 (by decide) (hts (.fieldLink RX9 44 "LitmusHallModel" "state" "[I") (by decide +kernel)) (fun _ h9 => h9) rfl dX9_isNow_22 ?_
    refine lv_iload_n hx hb dX9_isNow_25 rfl (lv_at hl 1 rfl) ?_
    refine lv_iload hx hb dX9_isNow_26 (lv_at hl 0 rfl) ?_
    refine lv_iadd hx hb dX9_isNow_28 ?_
    refine gx_top (y := nI ((((3000 * s9) + n) * 58) + i)) (nI_add (((3000 * s9) + n) * 58) i) ?_
    refine gy_ild (i := ((((3000 * s9) + n) * 58) + i)) hx hb hK hP 1 rfl (by omega) (by omega) dX9_isNow_29 ?_
    refine lv_aload_n hx hb dX9_isNow_30 rfl (lv_at hl 2 rfl) ?_
    refine va_get (D := D) (ci := 9) (v := .ref a22) (C := RX9) (T := TX9) (N := 52) hx hb hts (fun _ h => List.mem_cons_of_mem _ (List.mem_append_left _ (List.mem_append_right _ h))) hown hK hP 0 rfl rfl 22 (by decide) (hts (.fieldLink RX9 75 "LitmusHallModel" "now" "[I") (by decide +kernel)) (fun _ h9 => h9) rfl dX9_isNow_31 ?_
    refine lv_iload hx hb dX9_isNow_34 (lv_at hl 0 rfl) ?_
    refine gy_ild (i := i) hx hb hK hP 2 rfl (by omega) (by omega) dX9_isNow_36 ?_
    refine lv_icmp_eq (tgt := 42) hx hb dX9_isNow_37 (by decide) (fun c_2 => ?_) (fun c_2 => ?_)
    · refine lv_iinc (v := nI (i + 1)) (lv' := [(4, .int (nI (i + 1))), (3, .int (nI (((3000 * s9) + n) * 58))), (0, .ref h0), (1, .int (nI s9)), (2, .int (nI n))]) hx hb dX9_isNow_42 hl (k := 0) rfl (nI_add i 1) (by decide) rfl (fun ls hl => ?_)
      refine lv_goto (tgt := 14) hx hb dX9_isNow_45 (by decide) ?_
      exact ih14 (i + 1) H locs ls ⟨(by show (i + 1) ≤ 58; omega), (fun j hj => by by_cases e9 : j = i; (subst e9; exact c_2); exact hi14_1 j (by omega)), hP, hD, hS, lv_sub hl [0, 1, 2, 3, 4] rfl⟩ (by show 58 - (i + 1) < 58 - i; omega)
    · refine lv_iconst (v := 0) hx hb dX9_isNow_40 (by decide) ?_
      exact gx_zret (w' := [(h0, .inr (9, [v0, v1, v2, v3, v4, v5, v6, v7, v8, v9, v10, v11, .ref a12, v13, v14, v15, v16, v17, v18, v19, v20, v21, .ref a22, v23, v24, v25, v26, v27, v28, v29, v30, v31, v32, v33, v34, v35, v36, v37, v38, v39, v40, v41, v42, v43, v44, v45, v46, v47, v48, v49, v50, v51])), (a12, .inl (cI, 522000, .inl sf)), (a22, .inl (cI, 58, .inl nw))]) hx hb hr hlk hK hP hD hS (Nat.le_of_ble_eq_true rfl) (Nat.le_of_ble_eq_true rfl) dX9_isNow_41 rfl ⟨0, (by decide), (Or.inr ⟨rfl, fun h => c_2 (h i (by omega))⟩), rfl, rfl⟩
/-- what comes does -/
def gC9 (z : Int32) (S S9 : Nat → Nat) (sf sf9 fr fr9 bf bf9 nf nf9 hf hf9 nw : Nat → Int32) (s9 : Nat) (x y : Int32) : Prop := (z = 1 ∧ (∃ m, m < S s9 ∧ gAg 58 (gR9 sf s9 m) nw) ∧ S9 = S ∧ sf9 = sf ∧ fr9 = fr ∧ bf9 = bf ∧ nf9 = nf ∧ hf9 = hf) ∨ (¬ (∃ m, m < S s9 ∧ gAg 58 (gR9 sf s9 m) nw) ∧ ((z = 0 ∧ S s9 = 3000 ∧ S9 = S ∧ sf9 = sf ∧ fr9 = fr ∧ bf9 = bf ∧ nf9 = nf ∧ hf9 = hf) ∨ (z = 1 ∧ S s9 < 3000 ∧ S9 = updN S s9 (S s9 + 1) ∧ gRow sf9 sf nw ((3000 * s9 + S s9) * 58) 58 ∧ fr9 = upd fr (3000 * s9 + S s9) x ∧ bf9 = upd bf (3000 * s9 + S s9) y ∧ gCh s9 (S s9 + 1) sf9 nf9 hf9)))
def wsP_x_comes9 : List Cond := .code yX9_comes cX9_comes 7 (some .boolean) :: (([.fieldLink RX9 75 "LitmusHallModel" "now" "[I", .methodLink RX9 293 yX9_sum, .static yX9_sum, .initialized yX9_sum.cls, .fieldLink RX9 56 "LitmusHallModel" "head" "[I", .fieldLink RX9 59 "LitmusHallModel" "states" "[I", .fieldLink RX9 47 "LitmusHallModel" "from" "[I", .fieldLink RX9 50 "LitmusHallModel" "by" "[I", .fieldLink RX9 53 "LitmusHallModel" "next" "[I", .fieldLink RX9 44 "LitmusHallModel" "state" "[I", .methodLink RX9 297 yX9_isNow, .instanceMethod yX9_isNow, .selects RX9 yX9_isNow yX9_isNow, .initialized RX9] ++ wsX90) ++ (wsP_x_sum9 ++ (wsP_x_isNow9 ++ [])))
theorem gW_x_comes9 : wsP_x_comes9.all goodWord = true := by unfold wsP_x_comes9; exact gw_mk (by decide +kernel) (gw_app gW_x_sum9 (gw_app gW_x_isNow9 rfl))
set_option maxRecDepth 20000 in
theorem gP_x_comes9__x_sum9 : GoodIn wsP_x_comes9 (va_wsS RX9 293 yX9_sum wsP_x_sum9) := gw_in (pre := [.methodLink RX9 293 yX9_sum, .static yX9_sum, .initialized yX9_sum.cls]) (by decide +kernel) (fun _ h => List.mem_cons_of_mem _ (List.mem_append_right _ (List.mem_append_left _ h))) gW_x_sum9
set_option maxRecDepth 20000 in
theorem gP_x_comes9__x_isNow9 : GoodIn wsP_x_comes9 (wsV RX9 297 RX9 yX9_isNow wsP_x_isNow9) := gw_in (pre := [.methodLink RX9 297 yX9_isNow, .instanceMethod yX9_isNow, .selects RX9 yX9_isNow yX9_isNow, .initialized RX9]) (by decide +kernel) (fun _ h => List.mem_cons_of_mem _ (List.mem_append_right _ (List.mem_append_right _ (List.mem_append_left _ h)))) gW_x_isNow9
set_option maxHeartbeats 4000000 in
set_option maxRecDepth 100000 in
theorem x_comes9 (l : Launch) (D : va_G) (cI cB cZ : ClassId) (h0 : Nat) (a12 : Nat) (a13 : Nat) (a14 : Nat) (a15 : Nat) (a16 : Nat) (a17 : Nat) (a22 : Nat) (v0 : Value) (v1 : Value) (v2 : Value) (v3 : Value) (v4 : Value) (v5 : Value) (v6 : Value) (v7 : Value) (v8 : Value) (v9 : Value) (v10 : Value) (v11 : Value) (v18 : Value) (v19 : Value) (v20 : Value) (v21 : Value) (v23 : Value) (v24 : Value) (v25 : Value) (v26 : Value) (v27 : Value) (v28 : Value) (v29 : Value) (v30 : Value) (v31 : Value) (v32 : Value) (v33 : Value) (v34 : Value) (v35 : Value) (v36 : Value) (v37 : Value) (v38 : Value) (v39 : Value) (v40 : Value) (v41 : Value) (v42 : Value) (v43 : Value) (v44 : Value) (v45 : Value) (v46 : Value) (v47 : Value) (v48 : Value) (v49 : Value) (v50 : Value) (v51 : Value) (sf : Nat → Int32) (fr : Nat → Int32) (bf : Nat → Int32) (nf : Nat → Int32) (hf : Nat → Int32) (S : Nat → Nat) (nw : Nat → Int32) (s9 : Nat) (x : Int32) (y : Int32) (hs : s9 < 3) (hS : S s9 ≤ 3000) (hHd : ∀ j, j < 4096 → ∃ m, m ≤ S s9 ∧ hf ((4096 * s9) + j) = nI m - 1) (hNx : ∀ m, m < S s9 → ∃ q, q ≤ m ∧ nf ((3000 * s9) + m) = nI q - 1) (hCh : gCh s9 (S s9) sf nf hf) : gMi l yX9_comes wsP_x_comes9 ({ frames := 1, cells := 0, slots := 0, locals := 24 }) D cI cB cZ [] [.ref h0, .int (nI s9), .int x, .int y] [(h0, .inr (9, [v0, v1, v2, v3, v4, v5, v6, v7, v8, v9, v10, v11, .ref a12, .ref a13, .ref a14, .ref a15, .ref a16, .ref a17, v18, v19, v20, v21, .ref a22, v23, v24, v25, v26, v27, v28, v29, v30, v31, v32, v33, v34, v35, v36, v37, v38, v39, v40, v41, v42, v43, v44, v45, v46, v47, v48, v49, v50, v51])), (a12, .inl (cI, 522000, .inl sf)), (a13, .inl (cI, 9000, .inl fr)), (a14, .inl (cI, 9000, .inl bf)), (a15, .inl (cI, 9000, .inl nf)), (a16, .inl (cI, 12288, .inl hf)), (a17, .inl (cI, 3, .inl (fun j => nI (S j)))), (a22, .inl (cI, 58, .inl nw))] (fun r9 w9 => ∃ z : Int32, ∃ sf9 : Nat → Int32, ∃ fr9 : Nat → Int32, ∃ bf9 : Nat → Int32, ∃ nf9 : Nat → Int32, ∃ hf9 : Nat → Int32, ∃ S9 : Nat → Nat, (gCo z S S9 sf sf9 fr fr9 nf nf9 hf hf9 nw s9 x) ∧ (gC9 z S S9 sf sf9 fr fr9 bf bf9 nf nf9 hf hf9 nw s9 x y) ∧ r9 = z ∧ w9 = [(h0, .inr (9, [v0, v1, v2, v3, v4, v5, v6, v7, v8, v9, v10, v11, .ref a12, .ref a13, .ref a14, .ref a15, .ref a16, .ref a17, v18, v19, v20, v21, .ref a22, v23, v24, v25, v26, v27, v28, v29, v30, v31, v32, v33, v34, v35, v36, v37, v38, v39, v40, v41, v42, v43, v44, v45, v46, v47, v48, v49, v50, v51])), (a12, .inl (cI, 522000, .inl sf9)), (a13, .inl (cI, 9000, .inl fr9)), (a14, .inl (cI, 9000, .inl bf9)), (a15, .inl (cI, 9000, .inl nf9)), (a16, .inl (cI, 12288, .inl hf9)), (a17, .inl (cI, 3, .inl (fun j => nI (S9 j)))), (a22, .inl (cI, 58, .inl nw))]) := by
  refine gMi.of (cc := cX9_comes) (maxL := 7) (ret := (some .boolean)) (by decide) rfl (Nat.le_of_ble_eq_true rfl) (fun p e s m below meth c A ls hx hb hr hlk hml hts hown hin hA hP hK hD hS hN hl => ?_)
  have hown : s.vm.findClass RX9 = some m.cls := hown
  have hl : lv_has ls 7 [(0, .ref h0), (1, .int (nI s9)), (2, .int x), (3, .int y)] := hl
  refine lv_sipush (v := 4096) hx hb dX9_comes_0 (by decide) ?_
  refine lv_iload_n hx hb dX9_comes_3 rfl (lv_at hl 1 rfl) ?_
  refine lv_imul hx hb dX9_comes_4 ?_
  refine gx_top (y := nI (4096 * s9)) (pk_mul 4096 s9) ?_
  refine lv_aload_n hx hb dX9_comes_5 rfl (lv_at hl 0 rfl) ?_
  refine va_get (D := D) (ci := 9) (v := .ref a22) (C := RX9) (T := TX9) (N := 52) hx hb hts (fun _ h => List.mem_cons_of_mem _ (List.mem_append_left _ (List.mem_append_right _ h))) hown hK hP 0 rfl rfl 22 (by decide) (hts (.fieldLink RX9 75 "LitmusHallModel" "now" "[I") (by decide +kernel)) (fun _ h9 => h9) rfl dX9_comes_6 ?_
  refine lv_iconst (v := 0) hx hb dX9_comes_9 (by decide) ?_
  refine gx_goi (wc := [(a22, .inl (cI, 58, .inl nw))]) (wr := [(h0, .inr (9, [v0, v1, v2, v3, v4, v5, v6, v7, v8, v9, v10, v11, .ref a12, .ref a13, .ref a14, .ref a15, .ref a16, .ref a17, v18, v19, v20, v21, .ref a22, v23, v24, v25, v26, v27, v28, v29, v30, v31, v32, v33, v34, v35, v36, v37, v38, v39, v40, v41, v42, v43, v44, v45, v46, v47, v48, v49, v50, v51])), (a12, .inl (cI, 522000, .inl sf)), (a13, .inl (cI, 9000, .inl fr)), (a14, .inl (cI, 9000, .inl bf)), (a15, .inl (cI, 9000, .inl nf)), (a16, .inl (cI, 12288, .inl hf)), (a17, .inl (cI, 3, .inl (fun j => nI (S j))))]) (va_runS (As := [.ref a22, .int 0]) (rest := [.int (nI (4096 * s9))]) ⟨hx, hb, hml, hown, hts⟩ (x_sum9 l D cI cB cZ a22 58 nw 0 (by omega) (by omega) _) (va_cwS 2 hts gP_x_comes9__x_sum9 rfl rfl rfl (by decide +kernel) ⟨Nat.le_of_ble_eq_true rfl, Nat.le_of_ble_eq_true rfl⟩) (gx_preS hK gN.nil hP hD [7] rfl rfl) rfl rfl hl.1 rfl (lv_room (Nat.le_of_ble_eq_true rfl)) dX9_comes_10 ⟨Nat.le_of_ble_eq_true rfl, Nat.le_of_ble_eq_true rfl⟩) hP hD hS hA [7] [0, 1, 2, 3, 4, 5, 6] rfl rfl rfl (by decide) (fun r1 w1 H locs hp hP hD hS => ?_)
  obtain ⟨jh, hq_1, hx10_0, h9, rfl⟩ := hp
  have h9 := h9.symm
  subst h9
  have hq_1 : jh < 4096 := hq_1
  have hx10_0 : jh = gSu (fun u9 => nw (0 + u9)) := hx10_0
  have hsu : jh = gSu nw := hx10_0.trans (gSu_ag (fun i _ => by show nw (0 + i) = nw i; rw [Nat.zero_add]))
  refine lv_iadd hx hb dX9_comes_13 ?_
  refine gx_top (y := nI ((4096 * s9) + jh)) (nI_add (4096 * s9) jh) ?_
  refine lv_istore (lv' := [(4, .int (nI ((4096 * s9) + jh))), (0, .ref h0), (1, .int (nI s9)), (2, .int x), (3, .int y)]) hx hb dX9_comes_14 hl (by decide) rfl (fun ls hl => ?_)
  refine lv_aload_n hx hb dX9_comes_16 rfl (lv_at hl 1 rfl) ?_
  refine va_get (D := D) (ci := 9) (v := .ref a16) (C := RX9) (T := TX9) (N := 52) hx hb hts (fun _ h => List.mem_cons_of_mem _ (List.mem_append_left _ (List.mem_append_right _ h))) hown hK hP 0 rfl rfl 16 (by decide) (hts (.fieldLink RX9 56 "LitmusHallModel" "head" "[I") (by decide +kernel)) (fun _ h9 => h9) rfl dX9_comes_17 ?_
  refine lv_iload hx hb dX9_comes_20 (lv_at hl 0 rfl) ?_
  obtain ⟨m0, hm0, em0⟩ := hHd jh (by omega)
  refine gy_ild (i := ((4096 * s9) + jh)) hx hb hK hP 5 rfl (by omega) (by omega) dX9_comes_22 ?_
  refine gx_top (y := nI m0 - 1) em0 ?_
  refine lv_istore (lv' := [(5, .int (nI m0 - 1)), (4, .int (nI ((4096 * s9) + jh))), (0, .ref h0), (1, .int (nI s9)), (2, .int x), (3, .int y)]) hx hb dX9_comes_23 hl (by decide) rfl (fun ls hl => ?_)
  have hP : va_P D vwCl [(h0, .inr (9, [v0, v1, v2, v3, v4, v5, v6, v7, v8, v9, v10, v11, .ref a12, .ref a13, .ref a14, .ref a15, .ref a16, .ref a17, v18, v19, v20, v21, .ref a22, v23, v24, v25, v26, v27, v28, v29, v30, v31, v32, v33, v34, v35, v36, v37, v38, v39, v40, v41, v42, v43, v44, v45, v46, v47, v48, v49, v50, v51])), (a12, .inl (cI, 522000, .inl sf)), (a13, .inl (cI, 9000, .inl fr)), (a14, .inl (cI, 9000, .inl bf)), (a15, .inl (cI, 9000, .inl nf)), (a16, .inl (cI, 12288, .inl hf)), (a17, .inl (cI, 3, .inl (fun j => nI (S j)))), (a22, .inl (cI, 58, .inl nw))] H := hP
  have hD : va_D A [(h0, .inr (9, [v0, v1, v2, v3, v4, v5, v6, v7, v8, v9, v10, v11, .ref a12, .ref a13, .ref a14, .ref a15, .ref a16, .ref a17, v18, v19, v20, v21, .ref a22, v23, v24, v25, v26, v27, v28, v29, v30, v31, v32, v33, v34, v35, v36, v37, v38, v39, v40, v41, v42, v43, v44, v45, v46, v47, v48, v49, v50, v51])), (a12, .inl (cI, 522000, .inl sf)), (a13, .inl (cI, 9000, .inl fr)), (a14, .inl (cI, 9000, .inl bf)), (a15, .inl (cI, 9000, .inl nf)), (a16, .inl (cI, 12288, .inl hf)), (a17, .inl (cI, 3, .inl (fun j => nI (S j)))), (a22, .inl (cI, 58, .inl nw))] := hD
  refine gy_loop0 (I := fun (x9 : Nat) H locs ls => (x9 ≤ S s9) ∧ (gCk s9 (S s9) sf nw x9) ∧ va_P D vwCl [(h0, .inr (9, [v0, v1, v2, v3, v4, v5, v6, v7, v8, v9, v10, v11, .ref a12, .ref a13, .ref a14, .ref a15, .ref a16, .ref a17, v18, v19, v20, v21, .ref a22, v23, v24, v25, v26, v27, v28, v29, v30, v31, v32, v33, v34, v35, v36, v37, v38, v39, v40, v41, v42, v43, v44, v45, v46, v47, v48, v49, v50, v51])), (a12, .inl (cI, 522000, .inl sf)), (a13, .inl (cI, 9000, .inl fr)), (a14, .inl (cI, 9000, .inl bf)), (a15, .inl (cI, 9000, .inl nf)), (a16, .inl (cI, 12288, .inl hf)), (a17, .inl (cI, 3, .inl (fun j => nI (S j)))), (a22, .inl (cI, 58, .inl nw))] H ∧ va_D A [(h0, .inr (9, [v0, v1, v2, v3, v4, v5, v6, v7, v8, v9, v10, v11, .ref a12, .ref a13, .ref a14, .ref a15, .ref a16, .ref a17, v18, v19, v20, v21, .ref a22, v23, v24, v25, v26, v27, v28, v29, v30, v31, v32, v33, v34, v35, v36, v37, v38, v39, v40, v41, v42, v43, v44, v45, v46, v47, v48, v49, v50, v51])), (a12, .inl (cI, 522000, .inl sf)), (a13, .inl (cI, 9000, .inl fr)), (a14, .inl (cI, 9000, .inl bf)), (a15, .inl (cI, 9000, .inl nf)), (a16, .inl (cI, 12288, .inl hf)), (a17, .inl (cI, 3, .inl (fun j => nI (S j)))), (a22, .inl (cI, 58, .inl nw))] ∧ va_S A s.heap H locs ∧ lv_has ls 7 [(5, .int (nI x9 - 1)), (4, .int (nI ((4096 * s9) + jh))), (0, .ref h0), (1, .int (nI s9)), (2, .int x), (3, .int y)]) (μ := fun (x9 : Nat) => x9) (fun x9 H locs ls hI ih25 => ?_) m0 ⟨(by show m0 ≤ S s9; omega), (gCk_0 hCh (by omega) hsu em0 hm0), hP, hD, hS, lv_sub hl [0, 1, 2, 3, 4, 5] rfl⟩
  obtain ⟨mm, rfl⟩ : ∃ z9, z9 = x9 := ⟨_, rfl⟩
  obtain ⟨hi25_0, hi25_1, hP, hD, hS, hl⟩ := hI
  have hi25_0 : mm ≤ S s9 := hi25_0
  have hi25_1 : gCk s9 (S s9) sf nw mm := hi25_1
  have hP : va_P D vwCl [(h0, .inr (9, [v0, v1, v2, v3, v4, v5, v6, v7, v8, v9, v10, v11, .ref a12, .ref a13, .ref a14, .ref a15, .ref a16, .ref a17, v18, v19, v20, v21, .ref a22, v23, v24, v25, v26, v27, v28, v29, v30, v31, v32, v33, v34, v35, v36, v37, v38, v39, v40, v41, v42, v43, v44, v45, v46, v47, v48, v49, v50, v51])), (a12, .inl (cI, 522000, .inl sf)), (a13, .inl (cI, 9000, .inl fr)), (a14, .inl (cI, 9000, .inl bf)), (a15, .inl (cI, 9000, .inl nf)), (a16, .inl (cI, 12288, .inl hf)), (a17, .inl (cI, 3, .inl (fun j => nI (S j)))), (a22, .inl (cI, 58, .inl nw))] H := hP
  have hD : va_D A [(h0, .inr (9, [v0, v1, v2, v3, v4, v5, v6, v7, v8, v9, v10, v11, .ref a12, .ref a13, .ref a14, .ref a15, .ref a16, .ref a17, v18, v19, v20, v21, .ref a22, v23, v24, v25, v26, v27, v28, v29, v30, v31, v32, v33, v34, v35, v36, v37, v38, v39, v40, v41, v42, v43, v44, v45, v46, v47, v48, v49, v50, v51])), (a12, .inl (cI, 522000, .inl sf)), (a13, .inl (cI, 9000, .inl fr)), (a14, .inl (cI, 9000, .inl bf)), (a15, .inl (cI, 9000, .inl nf)), (a16, .inl (cI, 12288, .inl hf)), (a17, .inl (cI, 3, .inl (fun j => nI (S j)))), (a22, .inl (cI, 58, .inl nw))] := hD
  have hS : va_S A s.heap H locs := hS
  have hl : lv_has ls 7 [(5, .int (nI mm - 1)), (4, .int (nI ((4096 * s9) + jh))), (0, .ref h0), (1, .int (nI s9)), (2, .int x), (3, .int y)] := hl
  refine lv_iload hx hb dX9_comes_25 (lv_at hl 0 rfl) ?_
  refine lv_if_lt (tgt := 60) hx hb dX9_comes_27 (by decide) (fun c_2 => ?_) (fun c_2 => ?_)
  · have c_2 : mm = 0 := gy_m1z (by omega) c_2
    refine lv_aload_n hx hb dX9_comes_60 rfl (lv_at hl 2 rfl) ?_
    refine va_get (D := D) (ci := 9) (v := .ref a17) (C := RX9) (T := TX9) (N := 52) hx hb hts (fun _ h => List.mem_cons_of_mem _ (List.mem_append_left _ (List.mem_append_right _ h))) hown hK hP 0 rfl rfl 17 (by decide) (hts (.fieldLink RX9 59 "LitmusHallModel" "states" "[I") (by decide +kernel)) (fun _ h9 => h9) rfl dX9_comes_61 ?_
    refine lv_iload_n hx hb dX9_comes_64 rfl (lv_at hl 3 rfl) ?_
    refine gy_ild (i := s9) hx hb hK hP 6 rfl (by omega) (by omega) dX9_comes_65 ?_
    refine gx_top (y := nI (S s9)) rfl ?_
    refine lv_istore (lv' := [(5, .int (nI (S s9))), (4, .int (nI ((4096 * s9) + jh))), (0, .ref h0), (1, .int (nI s9)), (2, .int x), (3, .int y)]) hx hb dX9_comes_66 hl (by decide) rfl (fun ls hl => ?_)
    refine lv_iload hx hb dX9_comes_68 (lv_at hl 0 rfl) ?_
    refine lv_sipush (v := 3000) hx hb dX9_comes_70 (by decide) ?_
    refine gy_ne (a := (S s9)) (b := 3000) (tgt := 78) hx hb (by omega) (by omega) dX9_comes_73 (by decide) (fun c_3 => ?_) (fun c_3 => ?_)
    · refine lv_iconst (v := 0) hx hb dX9_comes_78 (by decide) ?_
      refine lv_istore (lv' := [(6, .int 0), (5, .int (nI (S s9))), (4, .int (nI ((4096 * s9) + jh))), (0, .ref h0), (1, .int (nI s9)), (2, .int x), (3, .int y)]) hx hb dX9_comes_79 hl (by decide) rfl (fun ls hl => ?_)
      refine gy_loop0 (I := fun (x9 : Nat × (Nat → Int32)) H locs ls => (x9.1 ≤ 58) ∧ (gRow x9.2 sf nw ((3000 * s9 + S s9) * 58) x9.1) ∧ va_P D vwCl [(h0, .inr (9, [v0, v1, v2, v3, v4, v5, v6, v7, v8, v9, v10, v11, .ref a12, .ref a13, .ref a14, .ref a15, .ref a16, .ref a17, v18, v19, v20, v21, .ref a22, v23, v24, v25, v26, v27, v28, v29, v30, v31, v32, v33, v34, v35, v36, v37, v38, v39, v40, v41, v42, v43, v44, v45, v46, v47, v48, v49, v50, v51])), (a12, .inl (cI, 522000, .inl x9.2)), (a13, .inl (cI, 9000, .inl fr)), (a14, .inl (cI, 9000, .inl bf)), (a15, .inl (cI, 9000, .inl nf)), (a16, .inl (cI, 12288, .inl hf)), (a17, .inl (cI, 3, .inl (fun j => nI (S j)))), (a22, .inl (cI, 58, .inl nw))] H ∧ va_D A [(h0, .inr (9, [v0, v1, v2, v3, v4, v5, v6, v7, v8, v9, v10, v11, .ref a12, .ref a13, .ref a14, .ref a15, .ref a16, .ref a17, v18, v19, v20, v21, .ref a22, v23, v24, v25, v26, v27, v28, v29, v30, v31, v32, v33, v34, v35, v36, v37, v38, v39, v40, v41, v42, v43, v44, v45, v46, v47, v48, v49, v50, v51])), (a12, .inl (cI, 522000, .inl x9.2)), (a13, .inl (cI, 9000, .inl fr)), (a14, .inl (cI, 9000, .inl bf)), (a15, .inl (cI, 9000, .inl nf)), (a16, .inl (cI, 12288, .inl hf)), (a17, .inl (cI, 3, .inl (fun j => nI (S j)))), (a22, .inl (cI, 58, .inl nw))] ∧ va_S A s.heap H locs ∧ lv_has ls 7 [(6, .int (nI x9.1)), (5, .int (nI (S s9))), (4, .int (nI ((4096 * s9) + jh))), (0, .ref h0), (1, .int (nI s9)), (2, .int x), (3, .int y)]) (μ := fun (x9 : Nat × (Nat → Int32)) => 58 - x9.1) (fun x9 H locs ls hI ih81 => ?_) (0, sf) ⟨(by show 0 ≤ 58; exact Nat.le_of_ble_eq_true rfl), gRow_0, hP, hD, hS, lv_sub hl [0, 1, 2, 3, 4, 5, 6] rfl⟩
      obtain ⟨i, g⟩ := x9
      obtain ⟨hi81_0, hi81_1, hP, hD, hS, hl⟩ := hI
      have hi81_0 : i ≤ 58 := hi81_0
      have hi81_1 : gRow g sf nw ((3000 * s9 + S s9) * 58) i := hi81_1
      have hP : va_P D vwCl [(h0, .inr (9, [v0, v1, v2, v3, v4, v5, v6, v7, v8, v9, v10, v11, .ref a12, .ref a13, .ref a14, .ref a15, .ref a16, .ref a17, v18, v19, v20, v21, .ref a22, v23, v24, v25, v26, v27, v28, v29, v30, v31, v32, v33, v34, v35, v36, v37, v38, v39, v40, v41, v42, v43, v44, v45, v46, v47, v48, v49, v50, v51])), (a12, .inl (cI, 522000, .inl g)), (a13, .inl (cI, 9000, .inl fr)), (a14, .inl (cI, 9000, .inl bf)), (a15, .inl (cI, 9000, .inl nf)), (a16, .inl (cI, 12288, .inl hf)), (a17, .inl (cI, 3, .inl (fun j => nI (S j)))), (a22, .inl (cI, 58, .inl nw))] H := hP
      have hD : va_D A [(h0, .inr (9, [v0, v1, v2, v3, v4, v5, v6, v7, v8, v9, v10, v11, .ref a12, .ref a13, .ref a14, .ref a15, .ref a16, .ref a17, v18, v19, v20, v21, .ref a22, v23, v24, v25, v26, v27, v28, v29, v30, v31, v32, v33, v34, v35, v36, v37, v38, v39, v40, v41, v42, v43, v44, v45, v46, v47, v48, v49, v50, v51])), (a12, .inl (cI, 522000, .inl g)), (a13, .inl (cI, 9000, .inl fr)), (a14, .inl (cI, 9000, .inl bf)), (a15, .inl (cI, 9000, .inl nf)), (a16, .inl (cI, 12288, .inl hf)), (a17, .inl (cI, 3, .inl (fun j => nI (S j)))), (a22, .inl (cI, 58, .inl nw))] := hD
      have hS : va_S A s.heap H locs := hS
      have hl : lv_has ls 7 [(6, .int (nI i)), (5, .int (nI (S s9))), (4, .int (nI ((4096 * s9) + jh))), (0, .ref h0), (1, .int (nI s9)), (2, .int x), (3, .int y)] := hl
      refine lv_iload hx hb dX9_comes_81 (lv_at hl 0 rfl) ?_
      refine lv_bipush (v := 58) hx hb dX9_comes_83 (by decide) ?_
      refine gy_ge (a := i) (b := 58) (tgt := 120) hx hb (by omega) (by omega) dX9_comes_85 (by decide) (fun c_4 => ?_) (fun c_4 => ?_)
      · refine lv_aload_n hx hb dX9_comes_120 rfl (lv_at hl 3 rfl) ?_
        refine va_get (D := D) (ci := 9) (v := .ref a13) (C := RX9) (T := TX9) (N := 52) hx hb hts (fun _ h => List.mem_cons_of_mem _ (List.mem_append_left _ (List.mem_append_right _ h))) hown hK hP 0 rfl rfl 13 (by decide) (hts (.fieldLink RX9 47 "LitmusHallModel" "from" "[I") (by decide +kernel)) (fun _ h9 => h9) rfl dX9_comes_121 ?_
        refine lv_sipush (v := 3000) hx hb dX9_comes_124 (by decide) ?_
        refine lv_iload_n hx hb dX9_comes_127 rfl (lv_at hl 4 rfl) ?_
        refine lv_imul hx hb dX9_comes_128 ?_
        refine gx_top (y := nI (3000 * s9)) (pk_mul 3000 s9) ?_
        refine lv_iload hx hb dX9_comes_129 (lv_at hl 1 rfl) ?_
        refine lv_iadd hx hb dX9_comes_131 ?_
        refine gx_top (y := nI ((3000 * s9) + (S s9))) (nI_add (3000 * s9) (S s9)) ?_
        refine lv_iload_n hx hb dX9_comes_132 rfl (lv_at hl 5 rfl) ?_
        refine gy_ist (i := ((3000 * s9) + (S s9))) hx hb hK hP hD hS 2 rfl (by omega) (by omega) dX9_comes_133 (fun H locs hP hD hS => ?_)
        have hP : va_P D vwCl [(h0, .inr (9, [v0, v1, v2, v3, v4, v5, v6, v7, v8, v9, v10, v11, .ref a12, .ref a13, .ref a14, .ref a15, .ref a16, .ref a17, v18, v19, v20, v21, .ref a22, v23, v24, v25, v26, v27, v28, v29, v30, v31, v32, v33, v34, v35, v36, v37, v38, v39, v40, v41, v42, v43, v44, v45, v46, v47, v48, v49, v50, v51])), (a12, .inl (cI, 522000, .inl g)), (a13, .inl (cI, 9000, .inl (upd fr ((3000 * s9) + (S s9)) x))), (a14, .inl (cI, 9000, .inl bf)), (a15, .inl (cI, 9000, .inl nf)), (a16, .inl (cI, 12288, .inl hf)), (a17, .inl (cI, 3, .inl (fun j => nI (S j)))), (a22, .inl (cI, 58, .inl nw))] H := hP
        have hD : va_D A [(h0, .inr (9, [v0, v1, v2, v3, v4, v5, v6, v7, v8, v9, v10, v11, .ref a12, .ref a13, .ref a14, .ref a15, .ref a16, .ref a17, v18, v19, v20, v21, .ref a22, v23, v24, v25, v26, v27, v28, v29, v30, v31, v32, v33, v34, v35, v36, v37, v38, v39, v40, v41, v42, v43, v44, v45, v46, v47, v48, v49, v50, v51])), (a12, .inl (cI, 522000, .inl g)), (a13, .inl (cI, 9000, .inl (upd fr ((3000 * s9) + (S s9)) x))), (a14, .inl (cI, 9000, .inl bf)), (a15, .inl (cI, 9000, .inl nf)), (a16, .inl (cI, 12288, .inl hf)), (a17, .inl (cI, 3, .inl (fun j => nI (S j)))), (a22, .inl (cI, 58, .inl nw))] := hD
        refine lv_aload_n hx hb dX9_comes_134 rfl (lv_at hl 3 rfl) ?_
        refine va_get (D := D) (ci := 9) (v := .ref a14) (C := RX9) (T := TX9) (N := 52) hx hb hts (fun _ h => List.mem_cons_of_mem _ (List.mem_append_left _ (List.mem_append_right _ h))) hown hK hP 0 rfl rfl 14 (by decide) (hts (.fieldLink RX9 50 "LitmusHallModel" "by" "[I") (by decide +kernel)) (fun _ h9 => h9) rfl dX9_comes_135 ?_
        refine lv_sipush (v := 3000) hx hb dX9_comes_138 (by decide) ?_
        refine lv_iload_n hx hb dX9_comes_141 rfl (lv_at hl 4 rfl) ?_
        refine lv_imul hx hb dX9_comes_142 ?_
        refine gx_top (y := nI (3000 * s9)) (pk_mul 3000 s9) ?_
        refine lv_iload hx hb dX9_comes_143 (lv_at hl 1 rfl) ?_
        refine lv_iadd hx hb dX9_comes_145 ?_
        refine gx_top (y := nI ((3000 * s9) + (S s9))) (nI_add (3000 * s9) (S s9)) ?_
        refine lv_iload_n hx hb dX9_comes_146 rfl (lv_at hl 6 rfl) ?_
        refine gy_ist (i := ((3000 * s9) + (S s9))) hx hb hK hP hD hS 3 rfl (by omega) (by omega) dX9_comes_147 (fun H locs hP hD hS => ?_)
        have hP : va_P D vwCl [(h0, .inr (9, [v0, v1, v2, v3, v4, v5, v6, v7, v8, v9, v10, v11, .ref a12, .ref a13, .ref a14, .ref a15, .ref a16, .ref a17, v18, v19, v20, v21, .ref a22, v23, v24, v25, v26, v27, v28, v29, v30, v31, v32, v33, v34, v35, v36, v37, v38, v39, v40, v41, v42, v43, v44, v45, v46, v47, v48, v49, v50, v51])), (a12, .inl (cI, 522000, .inl g)), (a13, .inl (cI, 9000, .inl (upd fr ((3000 * s9) + (S s9)) x))), (a14, .inl (cI, 9000, .inl (upd bf ((3000 * s9) + (S s9)) y))), (a15, .inl (cI, 9000, .inl nf)), (a16, .inl (cI, 12288, .inl hf)), (a17, .inl (cI, 3, .inl (fun j => nI (S j)))), (a22, .inl (cI, 58, .inl nw))] H := hP
        have hD : va_D A [(h0, .inr (9, [v0, v1, v2, v3, v4, v5, v6, v7, v8, v9, v10, v11, .ref a12, .ref a13, .ref a14, .ref a15, .ref a16, .ref a17, v18, v19, v20, v21, .ref a22, v23, v24, v25, v26, v27, v28, v29, v30, v31, v32, v33, v34, v35, v36, v37, v38, v39, v40, v41, v42, v43, v44, v45, v46, v47, v48, v49, v50, v51])), (a12, .inl (cI, 522000, .inl g)), (a13, .inl (cI, 9000, .inl (upd fr ((3000 * s9) + (S s9)) x))), (a14, .inl (cI, 9000, .inl (upd bf ((3000 * s9) + (S s9)) y))), (a15, .inl (cI, 9000, .inl nf)), (a16, .inl (cI, 12288, .inl hf)), (a17, .inl (cI, 3, .inl (fun j => nI (S j)))), (a22, .inl (cI, 58, .inl nw))] := hD
        refine lv_aload_n hx hb dX9_comes_148 rfl (lv_at hl 3 rfl) ?_
        refine va_get (D := D) (ci := 9) (v := .ref a15) (C := RX9) (T := TX9) (N := 52) hx hb hts (fun _ h => List.mem_cons_of_mem _ (List.mem_append_left _ (List.mem_append_right _ h))) hown hK hP 0 rfl rfl 15 (by decide) (hts (.fieldLink RX9 53 "LitmusHallModel" "next" "[I") (by decide +kernel)) (fun _ h9 => h9) rfl dX9_comes_149 ?_
        refine lv_sipush (v := 3000) hx hb dX9_comes_152 (by decide) ?_
        refine lv_iload_n hx hb dX9_comes_155 rfl (lv_at hl 4 rfl) ?_
        refine lv_imul hx hb dX9_comes_156 ?_
        refine gx_top (y := nI (3000 * s9)) (pk_mul 3000 s9) ?_
        refine lv_iload hx hb dX9_comes_157 (lv_at hl 1 rfl) ?_
        refine lv_iadd hx hb dX9_comes_159 ?_
        refine gx_top (y := nI ((3000 * s9) + (S s9))) (nI_add (3000 * s9) (S s9)) ?_
        refine lv_aload_n hx hb dX9_comes_160 rfl (lv_at hl 3 rfl) ?_
        refine va_get (D := D) (ci := 9) (v := .ref a16) (C := RX9) (T := TX9) (N := 52) hx hb hts (fun _ h => List.mem_cons_of_mem _ (List.mem_append_left _ (List.mem_append_right _ h))) hown hK hP 0 rfl rfl 16 (by decide) (hts (.fieldLink RX9 56 "LitmusHallModel" "head" "[I") (by decide +kernel)) (fun _ h9 => h9) rfl dX9_comes_161 ?_
        refine lv_iload hx hb dX9_comes_164 (lv_at hl 2 rfl) ?_
        refine gy_ild (i := ((4096 * s9) + jh)) hx hb hK hP 5 rfl (by omega) (by omega) dX9_comes_166 ?_
        refine gy_ist (i := ((3000 * s9) + (S s9))) hx hb hK hP hD hS 4 rfl (by omega) (by omega) dX9_comes_167 (fun H locs hP hD hS => ?_)
        have hP : va_P D vwCl [(h0, .inr (9, [v0, v1, v2, v3, v4, v5, v6, v7, v8, v9, v10, v11, .ref a12, .ref a13, .ref a14, .ref a15, .ref a16, .ref a17, v18, v19, v20, v21, .ref a22, v23, v24, v25, v26, v27, v28, v29, v30, v31, v32, v33, v34, v35, v36, v37, v38, v39, v40, v41, v42, v43, v44, v45, v46, v47, v48, v49, v50, v51])), (a12, .inl (cI, 522000, .inl g)), (a13, .inl (cI, 9000, .inl (upd fr ((3000 * s9) + (S s9)) x))), (a14, .inl (cI, 9000, .inl (upd bf ((3000 * s9) + (S s9)) y))), (a15, .inl (cI, 9000, .inl (upd nf ((3000 * s9) + (S s9)) (hf ((4096 * s9) + jh))))), (a16, .inl (cI, 12288, .inl hf)), (a17, .inl (cI, 3, .inl (fun j => nI (S j)))), (a22, .inl (cI, 58, .inl nw))] H := hP
        have hD : va_D A [(h0, .inr (9, [v0, v1, v2, v3, v4, v5, v6, v7, v8, v9, v10, v11, .ref a12, .ref a13, .ref a14, .ref a15, .ref a16, .ref a17, v18, v19, v20, v21, .ref a22, v23, v24, v25, v26, v27, v28, v29, v30, v31, v32, v33, v34, v35, v36, v37, v38, v39, v40, v41, v42, v43, v44, v45, v46, v47, v48, v49, v50, v51])), (a12, .inl (cI, 522000, .inl g)), (a13, .inl (cI, 9000, .inl (upd fr ((3000 * s9) + (S s9)) x))), (a14, .inl (cI, 9000, .inl (upd bf ((3000 * s9) + (S s9)) y))), (a15, .inl (cI, 9000, .inl (upd nf ((3000 * s9) + (S s9)) (hf ((4096 * s9) + jh))))), (a16, .inl (cI, 12288, .inl hf)), (a17, .inl (cI, 3, .inl (fun j => nI (S j)))), (a22, .inl (cI, 58, .inl nw))] := hD
        refine lv_aload_n hx hb dX9_comes_168 rfl (lv_at hl 3 rfl) ?_
        refine va_get (D := D) (ci := 9) (v := .ref a16) (C := RX9) (T := TX9) (N := 52) hx hb hts (fun _ h => List.mem_cons_of_mem _ (List.mem_append_left _ (List.mem_append_right _ h))) hown hK hP 0 rfl rfl 16 (by decide) (hts (.fieldLink RX9 56 "LitmusHallModel" "head" "[I") (by decide +kernel)) (fun _ h9 => h9) rfl dX9_comes_169 ?_
        refine lv_iload hx hb dX9_comes_172 (lv_at hl 2 rfl) ?_
        refine lv_iload hx hb dX9_comes_174 (lv_at hl 1 rfl) ?_
        refine gy_ist (i := ((4096 * s9) + jh)) hx hb hK hP hD hS 5 rfl (by omega) (by omega) dX9_comes_176 (fun H locs hP hD hS => ?_)
        have hP : va_P D vwCl [(h0, .inr (9, [v0, v1, v2, v3, v4, v5, v6, v7, v8, v9, v10, v11, .ref a12, .ref a13, .ref a14, .ref a15, .ref a16, .ref a17, v18, v19, v20, v21, .ref a22, v23, v24, v25, v26, v27, v28, v29, v30, v31, v32, v33, v34, v35, v36, v37, v38, v39, v40, v41, v42, v43, v44, v45, v46, v47, v48, v49, v50, v51])), (a12, .inl (cI, 522000, .inl g)), (a13, .inl (cI, 9000, .inl (upd fr ((3000 * s9) + (S s9)) x))), (a14, .inl (cI, 9000, .inl (upd bf ((3000 * s9) + (S s9)) y))), (a15, .inl (cI, 9000, .inl (upd nf ((3000 * s9) + (S s9)) (hf ((4096 * s9) + jh))))), (a16, .inl (cI, 12288, .inl (upd hf ((4096 * s9) + jh) (nI (S s9))))), (a17, .inl (cI, 3, .inl (fun j => nI (S j)))), (a22, .inl (cI, 58, .inl nw))] H := hP
        have hD : va_D A [(h0, .inr (9, [v0, v1, v2, v3, v4, v5, v6, v7, v8, v9, v10, v11, .ref a12, .ref a13, .ref a14, .ref a15, .ref a16, .ref a17, v18, v19, v20, v21, .ref a22, v23, v24, v25, v26, v27, v28, v29, v30, v31, v32, v33, v34, v35, v36, v37, v38, v39, v40, v41, v42, v43, v44, v45, v46, v47, v48, v49, v50, v51])), (a12, .inl (cI, 522000, .inl g)), (a13, .inl (cI, 9000, .inl (upd fr ((3000 * s9) + (S s9)) x))), (a14, .inl (cI, 9000, .inl (upd bf ((3000 * s9) + (S s9)) y))), (a15, .inl (cI, 9000, .inl (upd nf ((3000 * s9) + (S s9)) (hf ((4096 * s9) + jh))))), (a16, .inl (cI, 12288, .inl (upd hf ((4096 * s9) + jh) (nI (S s9))))), (a17, .inl (cI, 3, .inl (fun j => nI (S j)))), (a22, .inl (cI, 58, .inl nw))] := hD
        refine lv_aload_n hx hb dX9_comes_177 rfl (lv_at hl 3 rfl) ?_
        refine va_get (D := D) (ci := 9) (v := .ref a17) (C := RX9) (T := TX9) (N := 52) hx hb hts (fun _ h => List.mem_cons_of_mem _ (List.mem_append_left _ (List.mem_append_right _ h))) hown hK hP 0 rfl rfl 17 (by decide) (hts (.fieldLink RX9 59 "LitmusHallModel" "states" "[I") (by decide +kernel)) (fun _ h9 => h9) rfl dX9_comes_178 ?_
        refine lv_iload_n hx hb dX9_comes_181 rfl (lv_at hl 4 rfl) ?_
        refine lv_dup2_11 hx hb dX9_comes_182 rfl rfl ?_
        refine gy_ild (i := s9) hx hb hK hP 6 rfl (by omega) (by omega) dX9_comes_183 ?_
        refine gx_top (y := nI (S s9)) rfl ?_
        refine lv_iconst (v := 1) hx hb dX9_comes_184 (by decide) ?_
        refine lv_iadd hx hb dX9_comes_185 ?_
        refine gx_top (y := nI ((S s9) + 1)) (nI_add (S s9) 1) ?_
        refine gy_istN (i := s9) (v := ((S s9) + 1)) hx hb hK hP hD hS 6 rfl (by omega) (by omega) dX9_comes_186 (fun H locs hP hD hS => ?_)
        have hP : va_P D vwCl [(h0, .inr (9, [v0, v1, v2, v3, v4, v5, v6, v7, v8, v9, v10, v11, .ref a12, .ref a13, .ref a14, .ref a15, .ref a16, .ref a17, v18, v19, v20, v21, .ref a22, v23, v24, v25, v26, v27, v28, v29, v30, v31, v32, v33, v34, v35, v36, v37, v38, v39, v40, v41, v42, v43, v44, v45, v46, v47, v48, v49, v50, v51])), (a12, .inl (cI, 522000, .inl g)), (a13, .inl (cI, 9000, .inl (upd fr ((3000 * s9) + (S s9)) x))), (a14, .inl (cI, 9000, .inl (upd bf ((3000 * s9) + (S s9)) y))), (a15, .inl (cI, 9000, .inl (upd nf ((3000 * s9) + (S s9)) (hf ((4096 * s9) + jh))))), (a16, .inl (cI, 12288, .inl (upd hf ((4096 * s9) + jh) (nI (S s9))))), (a17, .inl (cI, 3, .inl (fun j => nI ((updN S s9 ((S s9) + 1)) j)))), (a22, .inl (cI, 58, .inl nw))] H := hP
        have hD : va_D A [(h0, .inr (9, [v0, v1, v2, v3, v4, v5, v6, v7, v8, v9, v10, v11, .ref a12, .ref a13, .ref a14, .ref a15, .ref a16, .ref a17, v18, v19, v20, v21, .ref a22, v23, v24, v25, v26, v27, v28, v29, v30, v31, v32, v33, v34, v35, v36, v37, v38, v39, v40, v41, v42, v43, v44, v45, v46, v47, v48, v49, v50, v51])), (a12, .inl (cI, 522000, .inl g)), (a13, .inl (cI, 9000, .inl (upd fr ((3000 * s9) + (S s9)) x))), (a14, .inl (cI, 9000, .inl (upd bf ((3000 * s9) + (S s9)) y))), (a15, .inl (cI, 9000, .inl (upd nf ((3000 * s9) + (S s9)) (hf ((4096 * s9) + jh))))), (a16, .inl (cI, 12288, .inl (upd hf ((4096 * s9) + jh) (nI (S s9))))), (a17, .inl (cI, 3, .inl (fun j => nI ((updN S s9 ((S s9) + 1)) j)))), (a22, .inl (cI, 58, .inl nw))] := hD
        refine lv_iconst (v := 1) hx hb dX9_comes_187 (by decide) ?_
        exact gx_zret (w' := [(h0, .inr (9, [v0, v1, v2, v3, v4, v5, v6, v7, v8, v9, v10, v11, .ref a12, .ref a13, .ref a14, .ref a15, .ref a16, .ref a17, v18, v19, v20, v21, .ref a22, v23, v24, v25, v26, v27, v28, v29, v30, v31, v32, v33, v34, v35, v36, v37, v38, v39, v40, v41, v42, v43, v44, v45, v46, v47, v48, v49, v50, v51])), (a12, .inl (cI, 522000, .inl g)), (a13, .inl (cI, 9000, .inl (upd fr ((3000 * s9) + (S s9)) x))), (a14, .inl (cI, 9000, .inl (upd bf ((3000 * s9) + (S s9)) y))), (a15, .inl (cI, 9000, .inl (upd nf ((3000 * s9) + (S s9)) (hf ((4096 * s9) + jh))))), (a16, .inl (cI, 12288, .inl (upd hf ((4096 * s9) + jh) (nI (S s9))))), (a17, .inl (cI, 3, .inl (fun j => nI ((updN S s9 ((S s9) + 1)) j)))), (a22, .inl (cI, 58, .inl nw))]) hx hb hr hlk hK hP hD hS (Nat.le_of_ble_eq_true rfl) (Nat.le_of_ble_eq_true rfl) dX9_comes_188 rfl ⟨1, g, (upd fr ((3000 * s9) + (S s9)) x), (upd bf ((3000 * s9) + (S s9)) y), (upd nf ((3000 * s9) + (S s9)) (hf ((4096 * s9) + jh))), (upd hf ((4096 * s9) + jh) (nI (S s9))), (updN S s9 ((S s9) + 1)), (Or.inr ⟨rfl, by omega, rfl, gRow_e (d := 58) hi81_1 (by omega), rfl, jh, by omega, rfl, rfl⟩), (Or.inr ⟨(gCk_no (show gCk s9 (S s9) sf nw 0 by rw [show (0 : Nat) = mm by omega]; exact hi25_1)), Or.inr ⟨rfl, by omega, rfl, gRow_e (d := 58) hi81_1 (by omega), rfl, rfl, gCh_a hCh (by omega) hsu (gRow_e (d := 58) hi81_1 (by omega))⟩⟩), rfl, rfl⟩
      · refine lv_aload_n hx hb dX9_comes_88 rfl (lv_at hl 3 rfl) ?_
        refine va_get (D := D) (ci := 9) (v := .ref a12) (C := RX9) (T := TX9) (N := 52) hx hb hts (fun _ h => List.mem_cons_of_mem _ (List.mem_append_left _ (List.mem_append_right _ h))) hown hK hP 0 rfl rfl 12 (by decide) (hts (.fieldLink RX9 44 "LitmusHallModel" "state" "[I") (by decide +kernel)) (fun _ h9 => h9) rfl dX9_comes_89 ?_
        refine lv_sipush (v := 3000) hx hb dX9_comes_92 (by decide) ?_
        refine lv_iload_n hx hb dX9_comes_95 rfl (lv_at hl 4 rfl) ?_
        refine lv_imul hx hb dX9_comes_96 ?_
        refine gx_top (y := nI (3000 * s9)) (pk_mul 3000 s9) ?_
        refine lv_iload hx hb dX9_comes_97 (lv_at hl 1 rfl) ?_
        refine lv_iadd hx hb dX9_comes_99 ?_
        refine gx_top (y := nI ((3000 * s9) + (S s9))) (nI_add (3000 * s9) (S s9)) ?_
        refine lv_bipush (v := 58) hx hb dX9_comes_100 (by decide) ?_
        refine lv_imul hx hb dX9_comes_102 ?_
        refine gx_top (y := nI (((3000 * s9) + (S s9)) * 58)) (pk_mul ((3000 * s9) + (S s9)) 58) ?_
        refine lv_iload hx hb dX9_comes_103 (lv_at hl 0 rfl) ?_
        refine lv_iadd hx hb dX9_comes_105 ?_
        refine gx_top (y := nI ((((3000 * s9) + (S s9)) * 58) + i)) (nI_add (((3000 * s9) + (S s9)) * 58) i) ?_
        refine lv_aload_n hx hb dX9_comes_106 rfl (lv_at hl 3 rfl) ?_
        refine va_get (D := D) (ci := 9) (v := .ref a22) (C := RX9) (T := TX9) (N := 52) hx hb hts (fun _ h => List.mem_cons_of_mem _ (List.mem_append_left _ (List.mem_append_right _ h))) hown hK hP 0 rfl rfl 22 (by decide) (hts (.fieldLink RX9 75 "LitmusHallModel" "now" "[I") (by decide +kernel)) (fun _ h9 => h9) rfl dX9_comes_107 ?_
        refine lv_iload hx hb dX9_comes_110 (lv_at hl 0 rfl) ?_
        refine gy_ild (i := i) hx hb hK hP 7 rfl (by omega) (by omega) dX9_comes_112 ?_
        refine gy_ist (i := ((((3000 * s9) + (S s9)) * 58) + i)) hx hb hK hP hD hS 1 rfl (by omega) (by omega) dX9_comes_113 (fun H locs hP hD hS => ?_)
        have hP : va_P D vwCl [(h0, .inr (9, [v0, v1, v2, v3, v4, v5, v6, v7, v8, v9, v10, v11, .ref a12, .ref a13, .ref a14, .ref a15, .ref a16, .ref a17, v18, v19, v20, v21, .ref a22, v23, v24, v25, v26, v27, v28, v29, v30, v31, v32, v33, v34, v35, v36, v37, v38, v39, v40, v41, v42, v43, v44, v45, v46, v47, v48, v49, v50, v51])), (a12, .inl (cI, 522000, .inl (upd g ((((3000 * s9) + (S s9)) * 58) + i) (nw i)))), (a13, .inl (cI, 9000, .inl fr)), (a14, .inl (cI, 9000, .inl bf)), (a15, .inl (cI, 9000, .inl nf)), (a16, .inl (cI, 12288, .inl hf)), (a17, .inl (cI, 3, .inl (fun j => nI (S j)))), (a22, .inl (cI, 58, .inl nw))] H := hP
        have hD : va_D A [(h0, .inr (9, [v0, v1, v2, v3, v4, v5, v6, v7, v8, v9, v10, v11, .ref a12, .ref a13, .ref a14, .ref a15, .ref a16, .ref a17, v18, v19, v20, v21, .ref a22, v23, v24, v25, v26, v27, v28, v29, v30, v31, v32, v33, v34, v35, v36, v37, v38, v39, v40, v41, v42, v43, v44, v45, v46, v47, v48, v49, v50, v51])), (a12, .inl (cI, 522000, .inl (upd g ((((3000 * s9) + (S s9)) * 58) + i) (nw i)))), (a13, .inl (cI, 9000, .inl fr)), (a14, .inl (cI, 9000, .inl bf)), (a15, .inl (cI, 9000, .inl nf)), (a16, .inl (cI, 12288, .inl hf)), (a17, .inl (cI, 3, .inl (fun j => nI (S j)))), (a22, .inl (cI, 58, .inl nw))] := hD
        refine lv_iinc (v := nI (i + 1)) (lv' := [(6, .int (nI (i + 1))), (5, .int (nI (S s9))), (4, .int (nI ((4096 * s9) + jh))), (0, .ref h0), (1, .int (nI s9)), (2, .int x), (3, .int y)]) hx hb dX9_comes_114 hl (k := 0) rfl (nI_add i 1) (by decide) rfl (fun ls hl => ?_)
        refine lv_goto (tgt := 81) hx hb dX9_comes_117 (by decide) ?_
        exact ih81 ((i + 1), (upd g ((((3000 * s9) + (S s9)) * 58) + i) (nw i))) H locs ls ⟨(by show (i + 1) ≤ 58; omega), (gRow_s hi81_1 (by omega)), hP, hD, hS, lv_sub hl [0, 1, 2, 3, 4, 5, 6] rfl⟩ (by show 58 - (i + 1) < 58 - i; omega)
    · refine lv_iconst (v := 0) hx hb dX9_comes_76 (by decide) ?_
      exact gx_zret (w' := [(h0, .inr (9, [v0, v1, v2, v3, v4, v5, v6, v7, v8, v9, v10, v11, .ref a12, .ref a13, .ref a14, .ref a15, .ref a16, .ref a17, v18, v19, v20, v21, .ref a22, v23, v24, v25, v26, v27, v28, v29, v30, v31, v32, v33, v34, v35, v36, v37, v38, v39, v40, v41, v42, v43, v44, v45, v46, v47, v48, v49, v50, v51])), (a12, .inl (cI, 522000, .inl sf)), (a13, .inl (cI, 9000, .inl fr)), (a14, .inl (cI, 9000, .inl bf)), (a15, .inl (cI, 9000, .inl nf)), (a16, .inl (cI, 12288, .inl hf)), (a17, .inl (cI, 3, .inl (fun j => nI (S j)))), (a22, .inl (cI, 58, .inl nw))]) hx hb hr hlk hK hP hD hS (Nat.le_of_ble_eq_true rfl) (Nat.le_of_ble_eq_true rfl) dX9_comes_77 rfl ⟨0, sf, fr, bf, nf, hf, S, (Or.inl ⟨Or.inl rfl, rfl, rfl, rfl, rfl, rfl⟩), (Or.inr ⟨(gCk_no (show gCk s9 (S s9) sf nw 0 by rw [show (0 : Nat) = mm by omega]; exact hi25_1)), Or.inl ⟨rfl, by omega, rfl, rfl, rfl, rfl, rfl, rfl⟩⟩), rfl, rfl⟩
  · have c_2 : 0 < mm := gy_m1p (by omega) c_2
    have em : nI mm - 1 = nI (mm - 1) := pk_sub (a := mm) (b := 1) (by omega)
    rw [em] at hl
    have hl : lv_has ls 7 [(5, .int (nI (mm - 1))), (4, .int (nI ((4096 * s9) + jh))), (0, .ref h0), (1, .int (nI s9)), (2, .int x), (3, .int y)] := hl
    refine lv_aload_n hx hb dX9_comes_30 rfl (lv_at hl 2 rfl) ?_
    refine lv_iload_n hx hb dX9_comes_31 rfl (lv_at hl 3 rfl) ?_
    refine lv_iload hx hb dX9_comes_32 (lv_at hl 0 rfl) ?_
    refine gx_goi (wc := [(h0, .inr (9, [v0, v1, v2, v3, v4, v5, v6, v7, v8, v9, v10, v11, .ref a12, .ref a13, .ref a14, .ref a15, .ref a16, .ref a17, v18, v19, v20, v21, .ref a22, v23, v24, v25, v26, v27, v28, v29, v30, v31, v32, v33, v34, v35, v36, v37, v38, v39, v40, v41, v42, v43, v44, v45, v46, v47, v48, v49, v50, v51])), (a12, .inl (cI, 522000, .inl sf)), (a22, .inl (cI, 58, .inl nw))]) (wr := [(a13, .inl (cI, 9000, .inl fr)), (a14, .inl (cI, 9000, .inl bf)), (a15, .inl (cI, 9000, .inl nf)), (a16, .inl (cI, 12288, .inl hf)), (a17, .inl (cI, 3, .inl (fun j => nI (S j))))]) (va_runV (As := [.int (nI s9), .int (nI (mm - 1))]) (rest := []) ⟨hx, hb, hml, hown, hts⟩ (x_isNow9 l D cI cB cZ h0 a12 a22 (v0) (v1) (v2) (v3) (v4) (v5) (v6) (v7) (v8) (v9) (v10) (v11) (.ref a13) (.ref a14) (.ref a15) (.ref a16) (.ref a17) (v18) (v19) (v20) (v21) (v23) (v24) (v25) (v26) (v27) (v28) (v29) (v30) (v31) (v32) (v33) (v34) (v35) (v36) (v37) (v38) (v39) (v40) (v41) (v42) (v43) (v44) (v45) (v46) (v47) (v48) (v49) (v50) (v51) sf nw s9 (mm - 1) (by omega) (by omega) _) (cwV 2 hts gP_x_comes9__x_isNow9 rfl rfl rfl (by decide +kernel) ⟨Nat.le_of_ble_eq_true rfl, Nat.le_of_ble_eq_true rfl⟩) (gx_preV (ci := 9) (q0 := 0) hK gN.nil hP hD [0, 1, 7] rfl rfl rfl rfl) rfl rfl hl.1 rfl (lv_room (Nat.le_of_ble_eq_true rfl)) dX9_comes_34 ⟨Nat.le_of_ble_eq_true rfl, Nat.le_of_ble_eq_true rfl⟩) hP hD hS hA [0, 1, 7] [2, 3, 4, 5, 6] rfl rfl rfl (by decide) (fun r1 w1 H locs hp hP hD hS => ?_)
    obtain ⟨e_5, hq_6, hx34_0, h9, rfl⟩ := hp
    have h9 := h9.symm
    subst h9
    have hq_6 : e_5 = 0 ∨ e_5 = 1 := hq_6
    have hx34_0 : (e_5 = 1 ∧ gAg 58 (gR9 sf s9 (mm - 1)) nw) ∨ (e_5 = 0 ∧ ¬ gAg 58 (gR9 sf s9 (mm - 1)) nw) := hx34_0
    refine lv_if_eq (tgt := 42) hx hb dX9_comes_37 (by decide) (fun c_7 => ?_) (fun c_7 => ?_)
    · refine lv_aload_n hx hb dX9_comes_42 rfl (lv_at hl 2 rfl) ?_
      refine va_get (D := D) (ci := 9) (v := .ref a15) (C := RX9) (T := TX9) (N := 52) hx hb hts (fun _ h => List.mem_cons_of_mem _ (List.mem_append_left _ (List.mem_append_right _ h))) hown hK hP 5 rfl rfl 15 (by decide) (hts (.fieldLink RX9 53 "LitmusHallModel" "next" "[I") (by decide +kernel)) (fun _ h9 => h9) rfl dX9_comes_43 ?_
      refine lv_sipush (v := 3000) hx hb dX9_comes_46 (by decide) ?_
      refine lv_iload_n hx hb dX9_comes_49 rfl (lv_at hl 3 rfl) ?_
      refine lv_imul hx hb dX9_comes_50 ?_
      refine gx_top (y := nI (3000 * s9)) (pk_mul 3000 s9) ?_
      refine lv_iload hx hb dX9_comes_51 (lv_at hl 0 rfl) ?_
      refine lv_iadd hx hb dX9_comes_53 ?_
      refine gx_top (y := nI ((3000 * s9) + (mm - 1))) (nI_add (3000 * s9) (mm - 1)) ?_
      obtain ⟨m1, hm1, em1⟩ := hNx (mm - 1) (by omega)
      refine gy_ild (i := ((3000 * s9) + (mm - 1))) hx hb hK hP 2 rfl (by omega) (by omega) dX9_comes_54 ?_
      refine gx_top (y := nI m1 - 1) em1 ?_
      refine lv_istore (lv' := [(5, .int (nI m1 - 1)), (4, .int (nI ((4096 * s9) + jh))), (0, .ref h0), (1, .int (nI s9)), (2, .int x), (3, .int y)]) hx hb dX9_comes_55 hl (by decide) rfl (fun ls hl => ?_)
      refine lv_goto (tgt := 25) hx hb dX9_comes_57 (by decide) ?_
      have hP : va_P D vwCl [(a13, .inl (cI, 9000, .inl fr)), (a14, .inl (cI, 9000, .inl bf)), (a15, .inl (cI, 9000, .inl nf)), (a16, .inl (cI, 12288, .inl hf)), (a17, .inl (cI, 3, .inl (fun j => nI (S j)))), (h0, .inr (9, [v0, v1, v2, v3, v4, v5, v6, v7, v8, v9, v10, v11, .ref a12, .ref a13, .ref a14, .ref a15, .ref a16, .ref a17, v18, v19, v20, v21, .ref a22, v23, v24, v25, v26, v27, v28, v29, v30, v31, v32, v33, v34, v35, v36, v37, v38, v39, v40, v41, v42, v43, v44, v45, v46, v47, v48, v49, v50, v51])), (a12, .inl (cI, 522000, .inl sf)), (a22, .inl (cI, 58, .inl nw))] H := hP
      have hD : va_D A [(a13, .inl (cI, 9000, .inl fr)), (a14, .inl (cI, 9000, .inl bf)), (a15, .inl (cI, 9000, .inl nf)), (a16, .inl (cI, 12288, .inl hf)), (a17, .inl (cI, 3, .inl (fun j => nI (S j)))), (h0, .inr (9, [v0, v1, v2, v3, v4, v5, v6, v7, v8, v9, v10, v11, .ref a12, .ref a13, .ref a14, .ref a15, .ref a16, .ref a17, v18, v19, v20, v21, .ref a22, v23, v24, v25, v26, v27, v28, v29, v30, v31, v32, v33, v34, v35, v36, v37, v38, v39, v40, v41, v42, v43, v44, v45, v46, v47, v48, v49, v50, v51])), (a12, .inl (cI, 522000, .inl sf)), (a22, .inl (cI, 58, .inl nw))] := hD
      have hP := hP.sub (ws' := [(h0, .inr (9, [v0, v1, v2, v3, v4, v5, v6, v7, v8, v9, v10, v11, .ref a12, .ref a13, .ref a14, .ref a15, .ref a16, .ref a17, v18, v19, v20, v21, .ref a22, v23, v24, v25, v26, v27, v28, v29, v30, v31, v32, v33, v34, v35, v36, v37, v38, v39, v40, v41, v42, v43, v44, v45, v46, v47, v48, v49, v50, v51])), (a12, .inl (cI, 522000, .inl sf)), (a13, .inl (cI, 9000, .inl fr)), (a14, .inl (cI, 9000, .inl bf)), (a15, .inl (cI, 9000, .inl nf)), (a16, .inl (cI, 12288, .inl hf)), (a17, .inl (cI, 3, .inl (fun j => nI (S j)))), (a22, .inl (cI, 58, .inl nw))]) [5, 6, 0, 1, 2, 3, 4, 7] rfl
      have hD := hD.sub (ws' := [(h0, .inr (9, [v0, v1, v2, v3, v4, v5, v6, v7, v8, v9, v10, v11, .ref a12, .ref a13, .ref a14, .ref a15, .ref a16, .ref a17, v18, v19, v20, v21, .ref a22, v23, v24, v25, v26, v27, v28, v29, v30, v31, v32, v33, v34, v35, v36, v37, v38, v39, v40, v41, v42, v43, v44, v45, v46, v47, v48, v49, v50, v51])), (a12, .inl (cI, 522000, .inl sf)), (a13, .inl (cI, 9000, .inl fr)), (a14, .inl (cI, 9000, .inl bf)), (a15, .inl (cI, 9000, .inl nf)), (a16, .inl (cI, 12288, .inl hf)), (a17, .inl (cI, 3, .inl (fun j => nI (S j)))), (a22, .inl (cI, 58, .inl nw))]) [5, 6, 0, 1, 2, 3, 4, 7] (by decide) rfl
      exact ih25 m1 H locs ls ⟨(by show m1 ≤ S s9; omega), (gCk_s hCh (by omega) hi25_1 (by omega) (by omega) em1 hm1 (hx34_0.resolve_left (fun q => absurd (q.1.symm.trans c_7) (by decide))).2), hP, hD, hS, lv_sub hl [0, 1, 2, 3, 4, 5] rfl⟩ (by show m1 < mm; omega)
    · refine lv_iconst (v := 1) hx hb dX9_comes_40 (by decide) ?_
      have hP : va_P D vwCl [(a13, .inl (cI, 9000, .inl fr)), (a14, .inl (cI, 9000, .inl bf)), (a15, .inl (cI, 9000, .inl nf)), (a16, .inl (cI, 12288, .inl hf)), (a17, .inl (cI, 3, .inl (fun j => nI (S j)))), (h0, .inr (9, [v0, v1, v2, v3, v4, v5, v6, v7, v8, v9, v10, v11, .ref a12, .ref a13, .ref a14, .ref a15, .ref a16, .ref a17, v18, v19, v20, v21, .ref a22, v23, v24, v25, v26, v27, v28, v29, v30, v31, v32, v33, v34, v35, v36, v37, v38, v39, v40, v41, v42, v43, v44, v45, v46, v47, v48, v49, v50, v51])), (a12, .inl (cI, 522000, .inl sf)), (a22, .inl (cI, 58, .inl nw))] H := hP
      have hD : va_D A [(a13, .inl (cI, 9000, .inl fr)), (a14, .inl (cI, 9000, .inl bf)), (a15, .inl (cI, 9000, .inl nf)), (a16, .inl (cI, 12288, .inl hf)), (a17, .inl (cI, 3, .inl (fun j => nI (S j)))), (h0, .inr (9, [v0, v1, v2, v3, v4, v5, v6, v7, v8, v9, v10, v11, .ref a12, .ref a13, .ref a14, .ref a15, .ref a16, .ref a17, v18, v19, v20, v21, .ref a22, v23, v24, v25, v26, v27, v28, v29, v30, v31, v32, v33, v34, v35, v36, v37, v38, v39, v40, v41, v42, v43, v44, v45, v46, v47, v48, v49, v50, v51])), (a12, .inl (cI, 522000, .inl sf)), (a22, .inl (cI, 58, .inl nw))] := hD
      have hP := hP.sub (ws' := [(h0, .inr (9, [v0, v1, v2, v3, v4, v5, v6, v7, v8, v9, v10, v11, .ref a12, .ref a13, .ref a14, .ref a15, .ref a16, .ref a17, v18, v19, v20, v21, .ref a22, v23, v24, v25, v26, v27, v28, v29, v30, v31, v32, v33, v34, v35, v36, v37, v38, v39, v40, v41, v42, v43, v44, v45, v46, v47, v48, v49, v50, v51])), (a12, .inl (cI, 522000, .inl sf)), (a13, .inl (cI, 9000, .inl fr)), (a14, .inl (cI, 9000, .inl bf)), (a15, .inl (cI, 9000, .inl nf)), (a16, .inl (cI, 12288, .inl hf)), (a17, .inl (cI, 3, .inl (fun j => nI (S j)))), (a22, .inl (cI, 58, .inl nw))]) [5, 6, 0, 1, 2, 3, 4, 7] rfl
      have hD := hD.sub (ws' := [(h0, .inr (9, [v0, v1, v2, v3, v4, v5, v6, v7, v8, v9, v10, v11, .ref a12, .ref a13, .ref a14, .ref a15, .ref a16, .ref a17, v18, v19, v20, v21, .ref a22, v23, v24, v25, v26, v27, v28, v29, v30, v31, v32, v33, v34, v35, v36, v37, v38, v39, v40, v41, v42, v43, v44, v45, v46, v47, v48, v49, v50, v51])), (a12, .inl (cI, 522000, .inl sf)), (a13, .inl (cI, 9000, .inl fr)), (a14, .inl (cI, 9000, .inl bf)), (a15, .inl (cI, 9000, .inl nf)), (a16, .inl (cI, 12288, .inl hf)), (a17, .inl (cI, 3, .inl (fun j => nI (S j)))), (a22, .inl (cI, 58, .inl nw))]) [5, 6, 0, 1, 2, 3, 4, 7] (by decide) rfl
      exact gx_zret (w' := [(h0, .inr (9, [v0, v1, v2, v3, v4, v5, v6, v7, v8, v9, v10, v11, .ref a12, .ref a13, .ref a14, .ref a15, .ref a16, .ref a17, v18, v19, v20, v21, .ref a22, v23, v24, v25, v26, v27, v28, v29, v30, v31, v32, v33, v34, v35, v36, v37, v38, v39, v40, v41, v42, v43, v44, v45, v46, v47, v48, v49, v50, v51])), (a12, .inl (cI, 522000, .inl sf)), (a13, .inl (cI, 9000, .inl fr)), (a14, .inl (cI, 9000, .inl bf)), (a15, .inl (cI, 9000, .inl nf)), (a16, .inl (cI, 12288, .inl hf)), (a17, .inl (cI, 3, .inl (fun j => nI (S j)))), (a22, .inl (cI, 58, .inl nw))]) hx hb hr hlk hK hP hD hS (Nat.le_of_ble_eq_true rfl) (Nat.le_of_ble_eq_true rfl) dX9_comes_41 rfl ⟨1, sf, fr, bf, nf, hf, S, (Or.inl ⟨Or.inr rfl, rfl, rfl, rfl, rfl, rfl⟩), (Or.inl ⟨rfl, ⟨mm - 1, by omega, (hx34_0.resolve_right (fun q => c_7 q.1)).2⟩, rfl, rfl, rfl, rfl, rfl, rfl⟩), rfl, rfl⟩
