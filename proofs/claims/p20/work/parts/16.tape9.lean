theorem dX9_back_0 : decode cX9_back 0 = .ok (.iload_n 1, 1) := by decide +kernel
theorem dX9_back_1 : decode cX9_back 1 = .ok (.ifCond .lt 11, 3) := by decide +kernel
theorem dX9_back_12 : decode cX9_back 12 = .ok (.iconst (-1), 1) := by decide +kernel
theorem dX9_back_13 : decode cX9_back 13 = .ok (.ireturn, 1) := by decide +kernel
theorem dX9_back_14 : decode cX9_back 14 = .ok (.aload_n 0, 1) := by decide +kernel
theorem dX9_back_15 : decode cX9_back 15 = .ok (.dup, 1) := by decide +kernel
theorem dX9_back_16 : decode cX9_back 16 = .ok (.getfield 116, 3) := by decide +kernel
theorem dX9_back_19 : decode cX9_back 19 = .ok (.iload_n 1, 1) := by decide +kernel
theorem dX9_back_20 : decode cX9_back 20 = .ok (.isub, 1) := by decide +kernel
theorem dX9_back_21 : decode cX9_back 21 = .ok (.putfield 116, 3) := by decide +kernel
theorem dX9_back_24 : decode cX9_back 24 = .ok (.aload_n 0, 1) := by decide +kernel
theorem dX9_back_25 : decode cX9_back 25 = .ok (.getfield 116, 3) := by decide +kernel
theorem dX9_back_28 : decode cX9_back 28 = .ok (.ireturn, 1) := by decide +kernel
theorem dX9_back_4 : decode cX9_back 4 = .ok (.iload_n 1, 1) := by decide +kernel
theorem dX9_back_5 : decode cX9_back 5 = .ok (.aload_n 0, 1) := by decide +kernel
theorem dX9_back_6 : decode cX9_back 6 = .ok (.getfield 116, 3) := by decide +kernel
theorem dX9_back_9 : decode cX9_back 9 = .ok (.if_icmp .le 5, 3) := by decide +kernel
theorem dX9_byteRow_0 : decode cX9_byteRow 0 = .ok (.iconst 3, 1) := by decide +kernel
theorem dX9_byteRow_1 : decode cX9_byteRow 1 = .ok (.istore_n 2, 1) := by decide +kernel
theorem dX9_byteRow_10 : decode cX9_byteRow 10 = .ok (.aload_n 0, 1) := by decide +kernel
theorem dX9_byteRow_11 : decode cX9_byteRow 11 = .ok (.getfield 116, 3) := by decide +kernel
theorem dX9_byteRow_14 : decode cX9_byteRow 14 = .ok (.iload_n 1, 1) := by decide +kernel
theorem dX9_byteRow_15 : decode cX9_byteRow 15 = .ok (.bipush 8, 2) := by decide +kernel
theorem dX9_byteRow_17 : decode cX9_byteRow 17 = .ok (.iload_n 2, 1) := by decide +kernel
theorem dX9_byteRow_18 : decode cX9_byteRow 18 = .ok (.imul, 1) := by decide +kernel
theorem dX9_byteRow_19 : decode cX9_byteRow 19 = .ok (.iushr, 1) := by decide +kernel
theorem dX9_byteRow_2 : decode cX9_byteRow 2 = .ok (.iload_n 2, 1) := by decide +kernel
theorem dX9_byteRow_20 : decode cX9_byteRow 20 = .ok (.i2b, 1) := by decide +kernel
theorem dX9_byteRow_21 : decode cX9_byteRow 21 = .ok (.bastore, 1) := by decide +kernel
theorem dX9_byteRow_22 : decode cX9_byteRow 22 = .ok (.aload_n 0, 1) := by decide +kernel
theorem dX9_byteRow_23 : decode cX9_byteRow 23 = .ok (.dup, 1) := by decide +kernel
theorem dX9_byteRow_24 : decode cX9_byteRow 24 = .ok (.getfield 116, 3) := by decide +kernel
theorem dX9_byteRow_27 : decode cX9_byteRow 27 = .ok (.iconst 1, 1) := by decide +kernel
theorem dX9_byteRow_28 : decode cX9_byteRow 28 = .ok (.iadd, 1) := by decide +kernel
theorem dX9_byteRow_29 : decode cX9_byteRow 29 = .ok (.putfield 116, 3) := by decide +kernel
theorem dX9_byteRow_3 : decode cX9_byteRow 3 = .ok (.ifCond .lt 35, 3) := by decide +kernel
theorem dX9_byteRow_32 : decode cX9_byteRow 32 = .ok (.iinc 2 (-1), 3) := by decide +kernel
theorem dX9_byteRow_35 : decode cX9_byteRow 35 = .ok (.goto (-33), 3) := by decide +kernel
theorem dX9_byteRow_38 : decode cX9_byteRow 38 = .ok (.return_, 1) := by decide +kernel
theorem dX9_byteRow_6 : decode cX9_byteRow 6 = .ok (.aload_n 0, 1) := by decide +kernel
theorem dX9_byteRow_7 : decode cX9_byteRow 7 = .ok (.getfield 88, 3) := by decide +kernel
theorem dX9_feed_0 : decode cX9_feed 0 = .ok (.aload_n 0, 1) := by decide +kernel
theorem dX9_feed_1 : decode cX9_feed 1 = .ok (.getfield 116, 3) := by decide +kernel
theorem dX9_feed_10 : decode cX9_feed 10 = .ok (.if_icmp .le 5, 3) := by decide +kernel
theorem dX9_feed_13 : decode cX9_feed 13 = .ok (.iconst (-1), 1) := by decide +kernel
theorem dX9_feed_14 : decode cX9_feed 14 = .ok (.ireturn, 1) := by decide +kernel
theorem dX9_feed_15 : decode cX9_feed 15 = .ok (.aload_n 0, 1) := by decide +kernel
theorem dX9_feed_16 : decode cX9_feed 16 = .ok (.iload_n 1, 1) := by decide +kernel
theorem dX9_feed_17 : decode cX9_feed 17 = .ok (.invokevirtual 119, 3) := by decide +kernel
theorem dX9_feed_20 : decode cX9_feed 20 = .ok (.aload_n 0, 1) := by decide +kernel
theorem dX9_feed_21 : decode cX9_feed 21 = .ok (.iload_n 2, 1) := by decide +kernel
theorem dX9_feed_22 : decode cX9_feed 22 = .ok (.invokevirtual 119, 3) := by decide +kernel
theorem dX9_feed_25 : decode cX9_feed 25 = .ok (.aload_n 0, 1) := by decide +kernel
theorem dX9_feed_26 : decode cX9_feed 26 = .ok (.iload_n 3, 1) := by decide +kernel
theorem dX9_feed_27 : decode cX9_feed 27 = .ok (.invokevirtual 119, 3) := by decide +kernel
theorem dX9_feed_30 : decode cX9_feed 30 = .ok (.aload_n 0, 1) := by decide +kernel
theorem dX9_feed_31 : decode cX9_feed 31 = .ok (.iload 4, 2) := by decide +kernel
theorem dX9_feed_33 : decode cX9_feed 33 = .ok (.invokevirtual 119, 3) := by decide +kernel
theorem dX9_feed_36 : decode cX9_feed 36 = .ok (.aload_n 0, 1) := by decide +kernel
theorem dX9_feed_37 : decode cX9_feed 37 = .ok (.iload 5, 2) := by decide +kernel
theorem dX9_feed_39 : decode cX9_feed 39 = .ok (.invokevirtual 119, 3) := by decide +kernel
theorem dX9_feed_4 : decode cX9_feed 4 = .ok (.bipush 20, 2) := by decide +kernel
theorem dX9_feed_42 : decode cX9_feed 42 = .ok (.aload_n 0, 1) := by decide +kernel
theorem dX9_feed_43 : decode cX9_feed 43 = .ok (.getfield 116, 3) := by decide +kernel
theorem dX9_feed_46 : decode cX9_feed 46 = .ok (.ireturn, 1) := by decide +kernel
theorem dX9_feed_6 : decode cX9_feed 6 = .ok (.iadd, 1) := by decide +kernel
theorem dX9_feed_7 : decode cX9_feed 7 = .ok (.sipush 4000, 3) := by decide +kernel
def wsP_c_X9_back : List Cond := .code yX9_back cX9_back 2 (some .int) :: ([.fieldLink RX9 116 "LitmusHallModel" "taped" "I"] ++ wsX90)
set_option maxHeartbeats 4000000 in
set_option maxRecDepth 100000 in
theorem c_X9_back (l : Launch) (D : va_G) (cI cB cZ : ClassId) (h0 : Nat) (v0 : Value) (v1 : Value) (v2 : Value) (v3 : Value) (v4 : Value) (v5 : Value) (v6 : Value) (v7 : Value) (v8 : Value) (v9 : Value) (v10 : Value) (v11 : Value) (v12 : Value) (v13 : Value) (v14 : Value) (v15 : Value) (v16 : Value) (v17 : Value) (v18 : Value) (v19 : Value) (v20 : Value) (v21 : Value) (v22 : Value) (v23 : Value) (v24 : Value) (v25 : Value) (v26 : Value) (v27 : Value) (v29 : Value) (v30 : Value) (v31 : Value) (v32 : Value) (v33 : Value) (v34 : Value) (v35 : Value) (v36 : Value) (v37 : Value) (v38 : Value) (v39 : Value) (v40 : Value) (v41 : Value) (v42 : Value) (v43 : Value) (v44 : Value) (v45 : Value) (v46 : Value) (v47 : Value) (v48 : Value) (v49 : Value) (v50 : Value) (v51 : Value) (n : Nat) (x : Int32) (hn : n ≤ 4000) : gMi l yX9_back wsP_c_X9_back ({ frames := 0, cells := 0, slots := 0, locals := 0 }) D cI cB cZ [] [.ref h0, .int x] [(h0, .inr (9, [v0, v1, v2, v3, v4, v5, v6, v7, v8, v9, v10, v11, v12, v13, v14, v15, v16, v17, v18, v19, v20, v21, v22, v23, v24, v25, v26, v27, .int (nI n), v29, v30, v31, v32, v33, v34, v35, v36, v37, v38, v39, v40, v41, v42, v43, v44, v45, v46, v47, v48, v49, v50, v51]))] (fun r9 w9 => ∃ z : Int32, ∃ m9 : Nat, ((z = (-1) ∧ m9 = n ∧ (x < 0 ∨ ¬ x ≤ nI n)) ∨ (∃ j, j ≤ n ∧ x = nI j ∧ z = nI (n - j) ∧ m9 = n - j)) ∧ r9 = z ∧ w9 = [(h0, .inr (9, [v0, v1, v2, v3, v4, v5, v6, v7, v8, v9, v10, v11, v12, v13, v14, v15, v16, v17, v18, v19, v20, v21, v22, v23, v24, v25, v26, v27, .int (nI m9), v29, v30, v31, v32, v33, v34, v35, v36, v37, v38, v39, v40, v41, v42, v43, v44, v45, v46, v47, v48, v49, v50, v51]))]) := by
  refine gMi.of (cc := cX9_back) (maxL := 2) (ret := (some .int)) (by decide) rfl (Nat.le_of_ble_eq_true rfl) (fun p e s m below meth c A ls hx hb hr hlk hml hts hown hin hA hP hK hD hS hN hl => ?_)
  have hown : s.vm.findClass RX9 = some m.cls := hown
  have hl : lv_has ls 2 [(0, .ref h0), (1, .int x)] := hl
  refine lv_iload_n hx hb dX9_back_0 rfl (lv_at hl 1 rfl) ?_
  refine lv_if_lt (tgt := 12) hx hb dX9_back_1 (by decide) (fun c_1 => ?_) (fun c_1 => ?_)
  · refine lv_iconst (v := (-1)) hx hb dX9_back_12 (by decide) ?_
    exact gx_iret (w' := [(h0, .inr (9, [v0, v1, v2, v3, v4, v5, v6, v7, v8, v9, v10, v11, v12, v13, v14, v15, v16, v17, v18, v19, v20, v21, v22, v23, v24, v25, v26, v27, .int (nI n), v29, v30, v31, v32, v33, v34, v35, v36, v37, v38, v39, v40, v41, v42, v43, v44, v45, v46, v47, v48, v49, v50, v51]))]) hx hb hr hlk hK hP hD hS (Nat.le_of_ble_eq_true rfl) (Nat.le_of_ble_eq_true rfl) dX9_back_13 ⟨(-1), n, (by first | exact Or.inl ⟨rfl, rfl, Or.inl c_1⟩ | exact Or.inl ⟨rfl, rfl, Or.inr c_1⟩), rfl, rfl⟩
  · refine lv_iload_n hx hb dX9_back_4 rfl (lv_at hl 1 rfl) ?_
    refine lv_aload_n hx hb dX9_back_5 rfl (lv_at hl 0 rfl) ?_
    refine va_get (D := D) (ci := 9) (v := .int (nI n)) (C := RX9) (T := TX9) (N := 52) hx hb hts (fun _ h => List.mem_cons_of_mem _ (List.mem_append_right _ h)) hown hK hP 0 rfl rfl 28 (by decide) (hts (.fieldLink RX9 116 "LitmusHallModel" "taped" "I") (by decide +kernel)) (fun _ h9 => h9) rfl dX9_back_6 ?_
    refine lv_icmp_le (tgt := 14) hx hb dX9_back_9 (by decide) (fun c_2 => ?_) (fun c_2 => ?_)
    · obtain ⟨j, hj, rfl⟩ := gy_leN (by omega) c_1 c_2
      have hl : lv_has ls 2 [(0, .ref h0), (1, .int (nI j))] := hl
      refine lv_aload_n hx hb dX9_back_14 rfl (lv_at hl 0 rfl) ?_
      refine lv_dup hx hb dX9_back_15 rfl ?_
      refine va_get (D := D) (ci := 9) (v := .int (nI n)) (C := RX9) (T := TX9) (N := 52) hx hb hts (fun _ h => List.mem_cons_of_mem _ (List.mem_append_right _ h)) hown hK hP 0 rfl rfl 28 (by decide) (hts (.fieldLink RX9 116 "LitmusHallModel" "taped" "I") (by decide +kernel)) (fun _ h9 => h9) rfl dX9_back_16 ?_
      refine lv_iload_n hx hb dX9_back_19 rfl (lv_at hl 1 rfl) ?_
      refine lv_isub hx hb dX9_back_20 ?_
      refine gx_top (y := nI (n - j)) (pk_sub (a := n) (b := j) (by omega)) ?_
      refine va_put (D := D) (ci := 9) (v := .int (nI (n - j))) (ty := .int) (C := RX9) (T := TX9) (N := 52) hx hb hts (fun _ h => List.mem_cons_of_mem _ (List.mem_append_right _ h)) tyX9 tyX9_ok nmX9 hown hK hP hD hS 0 rfl rfl 28 (by decide) (hts (.fieldLink RX9 116 "LitmusHallModel" "taped" "I") (by decide +kernel)) (fun _ h9 => h9) rfl (by decide +kernel) rfl rfl (Nat.le_of_ble_eq_true rfl) dX9_back_21 (fun H locs hP hD hS => ?_)
      have hP : va_P D vwCl [(h0, .inr (9, [v0, v1, v2, v3, v4, v5, v6, v7, v8, v9, v10, v11, v12, v13, v14, v15, v16, v17, v18, v19, v20, v21, v22, v23, v24, v25, v26, v27, .int (nI (n - j)), v29, v30, v31, v32, v33, v34, v35, v36, v37, v38, v39, v40, v41, v42, v43, v44, v45, v46, v47, v48, v49, v50, v51]))] H := hP
      have hD : va_D A [(h0, .inr (9, [v0, v1, v2, v3, v4, v5, v6, v7, v8, v9, v10, v11, v12, v13, v14, v15, v16, v17, v18, v19, v20, v21, v22, v23, v24, v25, v26, v27, .int (nI (n - j)), v29, v30, v31, v32, v33, v34, v35, v36, v37, v38, v39, v40, v41, v42, v43, v44, v45, v46, v47, v48, v49, v50, v51]))] := hD
      refine lv_aload_n hx hb dX9_back_24 rfl (lv_at hl 0 rfl) ?_
      refine va_get (D := D) (ci := 9) (v := .int (nI (n - j))) (C := RX9) (T := TX9) (N := 52) hx hb hts (fun _ h => List.mem_cons_of_mem _ (List.mem_append_right _ h)) hown hK hP 0 rfl rfl 28 (by decide) (hts (.fieldLink RX9 116 "LitmusHallModel" "taped" "I") (by decide +kernel)) (fun _ h9 => h9) rfl dX9_back_25 ?_
      exact gx_iret (w' := [(h0, .inr (9, [v0, v1, v2, v3, v4, v5, v6, v7, v8, v9, v10, v11, v12, v13, v14, v15, v16, v17, v18, v19, v20, v21, v22, v23, v24, v25, v26, v27, .int (nI (n - j)), v29, v30, v31, v32, v33, v34, v35, v36, v37, v38, v39, v40, v41, v42, v43, v44, v45, v46, v47, v48, v49, v50, v51]))]) hx hb hr hlk hK hP hD hS (Nat.le_of_ble_eq_true rfl) (Nat.le_of_ble_eq_true rfl) dX9_back_28 ⟨(nI (n - j)), (n - j), (Or.inr ⟨j, hj, rfl, rfl, rfl⟩), rfl, rfl⟩
    · refine lv_iconst (v := (-1)) hx hb dX9_back_12 (by decide) ?_
      exact gx_iret (w' := [(h0, .inr (9, [v0, v1, v2, v3, v4, v5, v6, v7, v8, v9, v10, v11, v12, v13, v14, v15, v16, v17, v18, v19, v20, v21, v22, v23, v24, v25, v26, v27, .int (nI n), v29, v30, v31, v32, v33, v34, v35, v36, v37, v38, v39, v40, v41, v42, v43, v44, v45, v46, v47, v48, v49, v50, v51]))]) hx hb hr hlk hK hP hD hS (Nat.le_of_ble_eq_true rfl) (Nat.le_of_ble_eq_true rfl) dX9_back_13 ⟨(-1), n, (by first | exact Or.inl ⟨rfl, rfl, Or.inl c_2⟩ | exact Or.inl ⟨rfl, rfl, Or.inr c_2⟩), rfl, rfl⟩
