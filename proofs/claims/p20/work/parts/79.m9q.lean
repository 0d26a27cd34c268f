theorem dX9_begin_0 : decode cX9_begin 0 = .ok (.aload_n 0, 1) := by decide +kernel
theorem dX9_begin_1 : decode cX9_begin 1 = .ok (.getfield 224, 3) := by decide +kernel
theorem dX9_begin_11 : decode cX9_begin 11 = .ok (.iload_n 1, 1) := by decide +kernel
theorem dX9_begin_12 : decode cX9_begin 12 = .ok (.iconst 1, 1) := by decide +kernel
theorem dX9_begin_13 : decode cX9_begin 13 = .ok (.if_icmp .le 5, 3) := by decide +kernel
theorem dX9_begin_16 : decode cX9_begin 16 = .ok (.iconst 0, 1) := by decide +kernel
theorem dX9_begin_17 : decode cX9_begin 17 = .ok (.ireturn, 1) := by decide +kernel
theorem dX9_begin_18 : decode cX9_begin 18 = .ok (.aload_n 0, 1) := by decide +kernel
theorem dX9_begin_19 : decode cX9_begin 19 = .ok (.invokevirtual 300, 3) := by decide +kernel
theorem dX9_begin_22 : decode cX9_begin 22 = .ok (.aload_n 0, 1) := by decide +kernel
theorem dX9_begin_23 : decode cX9_begin 23 = .ok (.invokevirtual 338, 3) := by decide +kernel
theorem dX9_begin_26 : decode cX9_begin 26 = .ok (.aload_n 0, 1) := by decide +kernel
theorem dX9_begin_27 : decode cX9_begin 27 = .ok (.iload_n 1, 1) := by decide +kernel
theorem dX9_begin_28 : decode cX9_begin 28 = .ok (.putfield 84, 3) := by decide +kernel
theorem dX9_begin_31 : decode cX9_begin 31 = .ok (.aload_n 0, 1) := by decide +kernel
theorem dX9_begin_32 : decode cX9_begin 32 = .ok (.iconst 0, 1) := by decide +kernel
theorem dX9_begin_33 : decode cX9_begin 33 = .ok (.putfield 227, 3) := by decide +kernel
theorem dX9_begin_36 : decode cX9_begin 36 = .ok (.iconst 1, 1) := by decide +kernel
theorem dX9_begin_37 : decode cX9_begin 37 = .ok (.ireturn, 1) := by decide +kernel
theorem dX9_begin_4 : decode cX9_begin 4 = .ok (.ifCond .eq 12, 3) := by decide +kernel
theorem dX9_begin_7 : decode cX9_begin 7 = .ok (.iload_n 1, 1) := by decide +kernel
theorem dX9_begin_8 : decode cX9_begin 8 = .ok (.ifCond .lt 8, 3) := by decide +kernel
theorem dX9_nextOf_0 : decode cX9_nextOf 0 = .ok (.aload_n 0, 1) := by decide +kernel
theorem dX9_nextOf_1 : decode cX9_nextOf 1 = .ok (.getfield 44, 3) := by decide +kernel
theorem dX9_nextOf_11 : decode cX9_nextOf 11 = .ok (.imul, 1) := by decide +kernel
theorem dX9_nextOf_12 : decode cX9_nextOf 12 = .ok (.iload_n 2, 1) := by decide +kernel
theorem dX9_nextOf_13 : decode cX9_nextOf 13 = .ok (.iadd, 1) := by decide +kernel
theorem dX9_nextOf_14 : decode cX9_nextOf 14 = .ok (.iaload, 1) := by decide +kernel
theorem dX9_nextOf_15 : decode cX9_nextOf 15 = .ok (.istore_n 3, 1) := by decide +kernel
theorem dX9_nextOf_16 : decode cX9_nextOf 16 = .ok (.iload_n 2, 1) := by decide +kernel
theorem dX9_nextOf_17 : decode cX9_nextOf 17 = .ok (.aload_n 0, 1) := by decide +kernel
theorem dX9_nextOf_18 : decode cX9_nextOf 18 = .ok (.getfield 7, 3) := by decide +kernel
theorem dX9_nextOf_21 : decode cX9_nextOf 21 = .ok (.iconst 0, 1) := by decide +kernel
theorem dX9_nextOf_22 : decode cX9_nextOf 22 = .ok (.iaload, 1) := by decide +kernel
theorem dX9_nextOf_23 : decode cX9_nextOf 23 = .ok (.if_icmp .ge 22, 3) := by decide +kernel
theorem dX9_nextOf_26 : decode cX9_nextOf 26 = .ok (.iload_n 3, 1) := by decide +kernel
theorem dX9_nextOf_27 : decode cX9_nextOf 27 = .ok (.aload_n 0, 1) := by decide +kernel
theorem dX9_nextOf_28 : decode cX9_nextOf 28 = .ok (.getfield 13, 3) := by decide +kernel
theorem dX9_nextOf_31 : decode cX9_nextOf 31 = .ok (.iload_n 2, 1) := by decide +kernel
theorem dX9_nextOf_32 : decode cX9_nextOf 32 = .ok (.iaload, 1) := by decide +kernel
theorem dX9_nextOf_33 : decode cX9_nextOf 33 = .ok (.if_icmp .ge 12, 3) := by decide +kernel
theorem dX9_nextOf_36 : decode cX9_nextOf 36 = .ok (.bipush 12, 2) := by decide +kernel
theorem dX9_nextOf_38 : decode cX9_nextOf 38 = .ok (.iload_n 2, 1) := by decide +kernel
theorem dX9_nextOf_39 : decode cX9_nextOf 39 = .ok (.imul, 1) := by decide +kernel
theorem dX9_nextOf_4 : decode cX9_nextOf 4 = .ok (.sipush 6000, 3) := by decide +kernel
theorem dX9_nextOf_40 : decode cX9_nextOf 40 = .ok (.iload_n 3, 1) := by decide +kernel
theorem dX9_nextOf_41 : decode cX9_nextOf 41 = .ok (.iadd, 1) := by decide +kernel
theorem dX9_nextOf_42 : decode cX9_nextOf 42 = .ok (.goto 4, 3) := by decide +kernel
theorem dX9_nextOf_45 : decode cX9_nextOf 45 = .ok (.iconst (-1), 1) := by decide +kernel
theorem dX9_nextOf_46 : decode cX9_nextOf 46 = .ok (.ireturn, 1) := by decide +kernel
theorem dX9_nextOf_7 : decode cX9_nextOf 7 = .ok (.iload_n 1, 1) := by decide +kernel
theorem dX9_nextOf_8 : decode cX9_nextOf 8 = .ok (.iadd, 1) := by decide +kernel
theorem dX9_nextOf_9 : decode cX9_nextOf 9 = .ok (.bipush 58, 2) := by decide +kernel
def wsP_c_nextOf9 : List Cond := .code yX9_nextOf cX9_nextOf 4 (some .int) :: (([.fieldLink RX9 44 "LitmusHallModel" "state" "[I", .fieldLink RX9 7 "LitmusHallModel" "cores" "[I", .fieldLink RX9 13 "LitmusHallModel" "many" "[I"] ++ wsX90) ++ [])
theorem gW_c_nextOf9 : wsP_c_nextOf9.all goodWord = true := by unfold wsP_c_nextOf9; exact gw_mk (by decide +kernel) rfl
set_option maxHeartbeats 4000000 in
set_option maxRecDepth 100000 in
theorem c_nextOf9 (l : Launch) (D : va_G) (cI cB cZ : ClassId) (h0 : Nat) (a0 : Nat) (a1 : Nat) (a12 : Nat) (v2 : Value) (v3 : Value) (v4 : Value) (v5 : Value) (v6 : Value) (v7 : Value) (v8 : Value) (v9 : Value) (v10 : Value) (v11 : Value) (v13 : Value) (v14 : Value) (v15 : Value) (v16 : Value) (v17 : Value) (v18 : Value) (v19 : Value) (v20 : Value) (v21 : Value) (v22 : Value) (v23 : Value) (v24 : Value) (v25 : Value) (v26 : Value) (v27 : Value) (v28 : Value) (v29 : Value) (v30 : Value) (v31 : Value) (v32 : Value) (v33 : Value) (v34 : Value) (v35 : Value) (v36 : Value) (v37 : Value) (v38 : Value) (v39 : Value) (v40 : Value) (v41 : Value) (v42 : Value) (v43 : Value) (v44 : Value) (v45 : Value) (v46 : Value) (v47 : Value) (v48 : Value) (v49 : Value) (v50 : Value) (v51 : Value) (C : Nat → Nat) (Mn : Nat → Nat) (sf : Nat → Int32) (n : Nat) (k : Nat) (m9 : Nat) (hC : ∀ j, j < 3 → C j ≤ 3) (hMn : ∀ j, j < 3 → Mn j ≤ 6) (hn : n < 3000) (hk : k < 3) (hm9 : m9 < 2 ^ 30) (hst : sf (((6000 + n) * 58) + k) = nI m9) : gMi l yX9_nextOf wsP_c_nextOf9 ({ frames := 0, cells := 0, slots := 0, locals := 0 }) D cI cB cZ [] [.ref h0, .int (nI n), .int (nI k)] [(h0, .inr (9, [.ref a0, .ref a1, v2, v3, v4, v5, v6, v7, v8, v9, v10, v11, .ref a12, v13, v14, v15, v16, v17, v18, v19, v20, v21, v22, v23, v24, v25, v26, v27, v28, v29, v30, v31, v32, v33, v34, v35, v36, v37, v38, v39, v40, v41, v42, v43, v44, v45, v46, v47, v48, v49, v50, v51])), (a0, .inl (cI, 3, .inl (fun j => nI (C j)))), (a1, .inl (cI, 9, .inl (fun j => nI (Mn j)))), (a12, .inl (cI, 522000, .inl sf))] (fun r9 w9 => ∃ z : Int32, (z = (-1) ∨ ∃ q, q < 36 ∧ q = 12 * k + m9 ∧ k < C 0 ∧ m9 < Mn k ∧ z = nI q) ∧ r9 = z ∧ w9 = [(h0, .inr (9, [.ref a0, .ref a1, v2, v3, v4, v5, v6, v7, v8, v9, v10, v11, .ref a12, v13, v14, v15, v16, v17, v18, v19, v20, v21, v22, v23, v24, v25, v26, v27, v28, v29, v30, v31, v32, v33, v34, v35, v36, v37, v38, v39, v40, v41, v42, v43, v44, v45, v46, v47, v48, v49, v50, v51])), (a0, .inl (cI, 3, .inl (fun j => nI (C j)))), (a1, .inl (cI, 9, .inl (fun j => nI (Mn j)))), (a12, .inl (cI, 522000, .inl sf))]) := by
  refine gMi.of (cc := cX9_nextOf) (maxL := 4) (ret := (some .int)) (by decide) rfl (Nat.le_of_ble_eq_true rfl) (fun p e s m below meth c A ls hx hb hr hlk hml hts hown hin hA hP hK hD hS hN hl => ?_)
  have hown : s.vm.findClass RX9 = some m.cls := hown
  have hl : lv_has ls 4 [(0, .ref h0), (1, .int (nI n)), (2, .int (nI k))] := hl
  refine lv_aload_n hx hb dX9_nextOf_0 rfl (lv_at hl 0 rfl) ?_
  refine va_get (D := D) (ci := 9) (v := .ref a12) (C := RX9) (T := TX9) (N := 52) hx hb hts (fun _ h => List.mem_cons_of_mem _ (List.mem_append_left _ (List.mem_append_right _ h))) hown hK hP 0 rfl rfl 12 (by decide) (hts (.fieldLink RX9 44 "LitmusHallModel" "state" "[I") (by decide +kernel)) (fun _ h9 => h9) rfl dX9_nextOf_1 ?_
  refine lv_sipush (v := 6000) hx hb dX9_nextOf_4 (by decide) ?_
  refine lv_iload_n hx hb dX9_nextOf_7 rfl (lv_at hl 1 rfl) ?_
  refine lv_iadd hx hb dX9_nextOf_8 ?_
  refine gx_top (y := nI (6000 + n)) (nI_add 6000 n) ?_
  refine lv_bipush (v := 58) hx hb dX9_nextOf_9 (by decide) ?_
  refine lv_imul hx hb dX9_nextOf_11 ?_
  refine gx_top (y := nI ((6000 + n) * 58)) (pk_mul (6000 + n) 58) ?_
  refine lv_iload_n hx hb dX9_nextOf_12 rfl (lv_at hl 2 rfl) ?_
  refine lv_iadd hx hb dX9_nextOf_13 ?_
  refine gx_top (y := nI (((6000 + n) * 58) + k)) (nI_add ((6000 + n) * 58) k) ?_
  refine gy_ild (i := (((6000 + n) * 58) + k)) hx hb hK hP 3 rfl (by omega) (by omega) dX9_nextOf_14 ?_
  refine gx_top (y := nI m9) hst ?_
  refine lv_istore_n (lv' := [(3, .int (nI m9)), (0, .ref h0), (1, .int (nI n)), (2, .int (nI k))]) hx hb dX9_nextOf_15 rfl hl (by decide) rfl (fun ls hl => ?_)
  refine lv_iload_n hx hb dX9_nextOf_16 rfl (lv_at hl 3 rfl) ?_
  refine lv_aload_n hx hb dX9_nextOf_17 rfl (lv_at hl 1 rfl) ?_
  refine va_get (D := D) (ci := 9) (v := .ref a0) (C := RX9) (T := TX9) (N := 52) hx hb hts (fun _ h => List.mem_cons_of_mem _ (List.mem_append_left _ (List.mem_append_right _ h))) hown hK hP 0 rfl rfl 0 (by decide) (hts (.fieldLink RX9 7 "LitmusHallModel" "cores" "[I") (by decide +kernel)) (fun _ h9 => h9) rfl dX9_nextOf_18 ?_
  refine lv_iconst (v := 0) hx hb dX9_nextOf_21 (by decide) ?_
  refine gy_ild (i := 0) hx hb hK hP 1 rfl (by omega) (by omega) dX9_nextOf_22 ?_
  refine gx_top (y := nI (C 0)) rfl ?_
  have hC0 := hC 0 (by omega)
  refine gy_ge (a := k) (b := (C 0)) (tgt := 45) hx hb (by omega) (by omega) dX9_nextOf_23 (by decide) (fun c_1 => ?_) (fun c_1 => ?_)
  · refine lv_iconst (v := (-1)) hx hb dX9_nextOf_45 (by decide) ?_
    exact gx_iret (w' := [(h0, .inr (9, [.ref a0, .ref a1, v2, v3, v4, v5, v6, v7, v8, v9, v10, v11, .ref a12, v13, v14, v15, v16, v17, v18, v19, v20, v21, v22, v23, v24, v25, v26, v27, v28, v29, v30, v31, v32, v33, v34, v35, v36, v37, v38, v39, v40, v41, v42, v43, v44, v45, v46, v47, v48, v49, v50, v51])), (a0, .inl (cI, 3, .inl (fun j => nI (C j)))), (a1, .inl (cI, 9, .inl (fun j => nI (Mn j)))), (a12, .inl (cI, 522000, .inl sf))]) hx hb hr hlk hK hP hD hS (Nat.le_of_ble_eq_true rfl) (Nat.le_of_ble_eq_true rfl) dX9_nextOf_46 ⟨(-1), (by first | exact Or.inl rfl | exact Or.inr ⟨_, by omega, rfl, by omega, by omega, rfl⟩), rfl, rfl⟩
  · refine lv_iload_n hx hb dX9_nextOf_26 rfl (lv_at hl 0 rfl) ?_
    refine lv_aload_n hx hb dX9_nextOf_27 rfl (lv_at hl 1 rfl) ?_
    refine va_get (D := D) (ci := 9) (v := .ref a1) (C := RX9) (T := TX9) (N := 52) hx hb hts (fun _ h => List.mem_cons_of_mem _ (List.mem_append_left _ (List.mem_append_right _ h))) hown hK hP 0 rfl rfl 1 (by decide) (hts (.fieldLink RX9 13 "LitmusHallModel" "many" "[I") (by decide +kernel)) (fun _ h9 => h9) rfl dX9_nextOf_28 ?_
    refine lv_iload_n hx hb dX9_nextOf_31 rfl (lv_at hl 3 rfl) ?_
    refine gy_ild (i := k) hx hb hK hP 2 rfl (by omega) (by omega) dX9_nextOf_32 ?_
    refine gx_top (y := nI (Mn k)) rfl ?_
    have hM0 := hMn k (by omega)
    refine gy_ge (a := m9) (b := (Mn k)) (tgt := 45) hx hb (by omega) (by omega) dX9_nextOf_33 (by decide) (fun c_2 => ?_) (fun c_2 => ?_)
    · refine lv_iconst (v := (-1)) hx hb dX9_nextOf_45 (by decide) ?_
      exact gx_iret (w' := [(h0, .inr (9, [.ref a0, .ref a1, v2, v3, v4, v5, v6, v7, v8, v9, v10, v11, .ref a12, v13, v14, v15, v16, v17, v18, v19, v20, v21, v22, v23, v24, v25, v26, v27, v28, v29, v30, v31, v32, v33, v34, v35, v36, v37, v38, v39, v40, v41, v42, v43, v44, v45, v46, v47, v48, v49, v50, v51])), (a0, .inl (cI, 3, .inl (fun j => nI (C j)))), (a1, .inl (cI, 9, .inl (fun j => nI (Mn j)))), (a12, .inl (cI, 522000, .inl sf))]) hx hb hr hlk hK hP hD hS (Nat.le_of_ble_eq_true rfl) (Nat.le_of_ble_eq_true rfl) dX9_nextOf_46 ⟨(-1), (by first | exact Or.inl rfl | exact Or.inr ⟨_, by omega, rfl, by omega, by omega, rfl⟩), rfl, rfl⟩
    · refine lv_bipush (v := 12) hx hb dX9_nextOf_36 (by decide) ?_
      refine lv_iload_n hx hb dX9_nextOf_38 rfl (lv_at hl 3 rfl) ?_
      refine lv_imul hx hb dX9_nextOf_39 ?_
      refine gx_top (y := nI (12 * k)) (pk_mul 12 k) ?_
      refine lv_iload_n hx hb dX9_nextOf_40 rfl (lv_at hl 0 rfl) ?_
      refine lv_iadd hx hb dX9_nextOf_41 ?_
      refine gx_top (y := nI ((12 * k) + m9)) (nI_add (12 * k) m9) ?_
      refine lv_goto (tgt := 46) hx hb dX9_nextOf_42 (by decide) ?_
      exact gx_iret (w' := [(h0, .inr (9, [.ref a0, .ref a1, v2, v3, v4, v5, v6, v7, v8, v9, v10, v11, .ref a12, v13, v14, v15, v16, v17, v18, v19, v20, v21, v22, v23, v24, v25, v26, v27, v28, v29, v30, v31, v32, v33, v34, v35, v36, v37, v38, v39, v40, v41, v42, v43, v44, v45, v46, v47, v48, v49, v50, v51])), (a0, .inl (cI, 3, .inl (fun j => nI (C j)))), (a1, .inl (cI, 9, .inl (fun j => nI (Mn j)))), (a12, .inl (cI, 522000, .inl sf))]) hx hb hr hlk hK hP hD hS (Nat.le_of_ble_eq_true rfl) (Nat.le_of_ble_eq_true rfl) dX9_nextOf_46 ⟨(nI ((12 * k) + m9)), (by first | exact Or.inl rfl | exact Or.inr ⟨_, by omega, rfl, by omega, by omega, rfl⟩), rfl, rfl⟩