theorem dX9_isWord_0 : decode cX9_isWord 0 = .ok (.aload_n 0, 1) := by decide +kernel
theorem dX9_isWord_1 : decode cX9_isWord 1 = .ok (.getfield 137, 3) := by decide +kernel
theorem dX9_isWord_12 : decode cX9_isWord 12 = .ok (.lload_n 1, 1) := by decide +kernel
theorem dX9_isWord_13 : decode cX9_isWord 13 = .ok (.lcmp, 1) := by decide +kernel
theorem dX9_isWord_14 : decode cX9_isWord 14 = .ok (.ifCond .ne 7, 3) := by decide +kernel
theorem dX9_isWord_17 : decode cX9_isWord 17 = .ok (.iconst 1, 1) := by decide +kernel
theorem dX9_isWord_18 : decode cX9_isWord 18 = .ok (.goto 4, 3) := by decide +kernel
theorem dX9_isWord_21 : decode cX9_isWord 21 = .ok (.iconst 0, 1) := by decide +kernel
theorem dX9_isWord_22 : decode cX9_isWord 22 = .ok (.ireturn, 1) := by decide +kernel
theorem dX9_isWord_4 : decode cX9_isWord 4 = .ok (.iconst 1, 1) := by decide +kernel
theorem dX9_isWord_5 : decode cX9_isWord 5 = .ok (.if_icmp .ne 16, 3) := by decide +kernel
theorem dX9_isWord_8 : decode cX9_isWord 8 = .ok (.aload_n 0, 1) := by decide +kernel
theorem dX9_isWord_9 : decode cX9_isWord 9 = .ok (.getfield 133, 3) := by decide +kernel
theorem dX9_pass_0 : decode cX9_pass 0 = .ok (.aload_n 0, 1) := by decide +kernel
theorem dX9_pass_1 : decode cX9_pass 1 = .ok (.getfield 154, 3) := by decide +kernel
theorem dX9_pass_10 : decode cX9_pass 10 = .ok (.aload_n 0, 1) := by decide +kernel
theorem dX9_pass_11 : decode cX9_pass 11 = .ok (.iconst 2, 1) := by decide +kernel
theorem dX9_pass_12 : decode cX9_pass 12 = .ok (.aload_n 0, 1) := by decide +kernel
theorem dX9_pass_13 : decode cX9_pass 13 = .ok (.getfield 130, 3) := by decide +kernel
theorem dX9_pass_16 : decode cX9_pass 16 = .ok (.invokevirtual 157, 3) := by decide +kernel
theorem dX9_pass_19 : decode cX9_pass 19 = .ok (.ireturn, 1) := by decide +kernel
theorem dX9_pass_20 : decode cX9_pass 20 = .ok (.aload_n 0, 1) := by decide +kernel
theorem dX9_pass_21 : decode cX9_pass 21 = .ok (.dup, 1) := by decide +kernel
theorem dX9_pass_22 : decode cX9_pass 22 = .ok (.getfield 154, 3) := by decide +kernel
theorem dX9_pass_25 : decode cX9_pass 25 = .ok (.iconst 1, 1) := by decide +kernel
theorem dX9_pass_26 : decode cX9_pass 26 = .ok (.iadd, 1) := by decide +kernel
theorem dX9_pass_27 : decode cX9_pass 27 = .ok (.putfield 154, 3) := by decide +kernel
theorem dX9_pass_30 : decode cX9_pass 30 = .ok (.aload_n 0, 1) := by decide +kernel
theorem dX9_pass_31 : decode cX9_pass 31 = .ok (.invokevirtual 161, 3) := by decide +kernel
theorem dX9_pass_34 : decode cX9_pass 34 = .ok (.iconst 1, 1) := by decide +kernel
theorem dX9_pass_35 : decode cX9_pass 35 = .ok (.ireturn, 1) := by decide +kernel
theorem dX9_pass_4 : decode cX9_pass 4 = .ok (.sipush 500, 3) := by decide +kernel
theorem dX9_pass_7 : decode cX9_pass 7 = .ok (.if_icmp .le 13, 3) := by decide +kernel
theorem dX9_sign_0 : decode cX9_sign 0 = .ok (.aload_n 0, 1) := by decide +kernel
theorem dX9_sign_1 : decode cX9_sign 1 = .ok (.getfield 137, 3) := by decide +kernel
theorem dX9_sign_12 : decode cX9_sign 12 = .ok (.iload_n 1, 1) := by decide +kernel
theorem dX9_sign_13 : decode cX9_sign 13 = .ok (.i2l, 1) := by decide +kernel
theorem dX9_sign_14 : decode cX9_sign 14 = .ok (.lcmp, 1) := by decide +kernel
theorem dX9_sign_15 : decode cX9_sign 15 = .ok (.ifCond .ne 10, 3) := by decide +kernel
theorem dX9_sign_18 : decode cX9_sign 18 = .ok (.aload_n 0, 1) := by decide +kernel
theorem dX9_sign_19 : decode cX9_sign 19 = .ok (.invokevirtual 164, 3) := by decide +kernel
theorem dX9_sign_22 : decode cX9_sign 22 = .ok (.goto 12, 3) := by decide +kernel
theorem dX9_sign_25 : decode cX9_sign 25 = .ok (.aload_n 0, 1) := by decide +kernel
theorem dX9_sign_26 : decode cX9_sign 26 = .ok (.iconst 1, 1) := by decide +kernel
theorem dX9_sign_27 : decode cX9_sign 27 = .ok (.aload_n 0, 1) := by decide +kernel
theorem dX9_sign_28 : decode cX9_sign 28 = .ok (.getfield 130, 3) := by decide +kernel
theorem dX9_sign_31 : decode cX9_sign 31 = .ok (.invokevirtual 157, 3) := by decide +kernel
theorem dX9_sign_34 : decode cX9_sign 34 = .ok (.ireturn, 1) := by decide +kernel
theorem dX9_sign_4 : decode cX9_sign 4 = .ok (.iconst 3, 1) := by decide +kernel
theorem dX9_sign_5 : decode cX9_sign 5 = .ok (.if_icmp .ne 20, 3) := by decide +kernel
theorem dX9_sign_8 : decode cX9_sign 8 = .ok (.aload_n 0, 1) := by decide +kernel
theorem dX9_sign_9 : decode cX9_sign 9 = .ok (.getfield 133, 3) := by decide +kernel
theorem dX9_stop_0 : decode cX9_stop 0 = .ok (.aload_n 0, 1) := by decide +kernel
theorem dX9_stop_1 : decode cX9_stop 1 = .ok (.iload_n 1, 1) := by decide +kernel
theorem dX9_stop_10 : decode cX9_stop 10 = .ok (.aload_n 0, 1) := by decide +kernel
theorem dX9_stop_11 : decode cX9_stop 11 = .ok (.iconst 1, 1) := by decide +kernel
theorem dX9_stop_12 : decode cX9_stop 12 = .ok (.putfield 150, 3) := by decide +kernel
theorem dX9_stop_15 : decode cX9_stop 15 = .ok (.iconst 0, 1) := by decide +kernel
theorem dX9_stop_16 : decode cX9_stop 16 = .ok (.ireturn, 1) := by decide +kernel
theorem dX9_stop_2 : decode cX9_stop 2 = .ok (.putfield 147, 3) := by decide +kernel
theorem dX9_stop_5 : decode cX9_stop 5 = .ok (.aload_n 0, 1) := by decide +kernel
theorem dX9_stop_6 : decode cX9_stop 6 = .ok (.iload_n 2, 1) := by decide +kernel
theorem dX9_stop_7 : decode cX9_stop 7 = .ok (.putfield 92, 3) := by decide +kernel
theorem dX9_tell_0 : decode cX9_tell 0 = .ok (.aload_n 0, 1) := by decide +kernel
theorem dX9_tell_1 : decode cX9_tell 1 = .ok (.getfield 147, 3) := by decide +kernel
theorem dX9_tell_12 : decode cX9_tell 12 = .ok (.if_icmp .ge 13, 3) := by decide +kernel
theorem dX9_tell_15 : decode cX9_tell 15 = .ok (.aload_n 0, 1) := by decide +kernel
theorem dX9_tell_16 : decode cX9_tell 16 = .ok (.iconst 3, 1) := by decide +kernel
theorem dX9_tell_17 : decode cX9_tell 17 = .ok (.putfield 147, 3) := by decide +kernel
theorem dX9_tell_20 : decode cX9_tell 20 = .ok (.aload_n 0, 1) := by decide +kernel
theorem dX9_tell_21 : decode cX9_tell 21 = .ok (.iload_n 1, 1) := by decide +kernel
theorem dX9_tell_22 : decode cX9_tell 22 = .ok (.putfield 92, 3) := by decide +kernel
theorem dX9_tell_25 : decode cX9_tell 25 = .ok (.return_, 1) := by decide +kernel
theorem dX9_tell_4 : decode cX9_tell 4 = .ok (.ifCond .eq 11, 3) := by decide +kernel
theorem dX9_tell_7 : decode cX9_tell 7 = .ok (.iload_n 1, 1) := by decide +kernel
theorem dX9_tell_8 : decode cX9_tell 8 = .ok (.aload_n 0, 1) := by decide +kernel
theorem dX9_tell_9 : decode cX9_tell 9 = .ok (.getfield 92, 3) := by decide +kernel
theorem dX9_words_0 : decode cX9_words 0 = .ok (.aload_n 0, 1) := by decide +kernel
theorem dX9_words_1 : decode cX9_words 1 = .ok (.lload_n 1, 1) := by decide +kernel
theorem dX9_words_12 : decode cX9_words 12 = .ok (.goto 12, 3) := by decide +kernel
theorem dX9_words_15 : decode cX9_words 15 = .ok (.aload_n 0, 1) := by decide +kernel
theorem dX9_words_16 : decode cX9_words 16 = .ok (.iconst 1, 1) := by decide +kernel
theorem dX9_words_17 : decode cX9_words 17 = .ok (.aload_n 0, 1) := by decide +kernel
theorem dX9_words_18 : decode cX9_words 18 = .ok (.getfield 130, 3) := by decide +kernel
theorem dX9_words_2 : decode cX9_words 2 = .ok (.invokevirtual 168, 3) := by decide +kernel
theorem dX9_words_21 : decode cX9_words 21 = .ok (.invokevirtual 157, 3) := by decide +kernel
theorem dX9_words_24 : decode cX9_words 24 = .ok (.ireturn, 1) := by decide +kernel
theorem dX9_words_5 : decode cX9_words 5 = .ok (.ifCond .eq 10, 3) := by decide +kernel
theorem dX9_words_8 : decode cX9_words 8 = .ok (.aload_n 0, 1) := by decide +kernel
theorem dX9_words_9 : decode cX9_words 9 = .ok (.invokevirtual 164, 3) := by decide +kernel
def wsP_c_stop9 : List Cond := .code yX9_stop cX9_stop 3 (some .boolean) :: (([.fieldLink RX9 147 "LitmusHallModel" "faultKind" "I", .fieldLink RX9 92 "LitmusHallModel" "faultPlace" "I", .fieldLink RX9 150 "LitmusHallModel" "stopped" "Z"] ++ wsX90) ++ [])
theorem gW_c_stop9 : wsP_c_stop9.all goodWord = true := by unfold wsP_c_stop9; exact gw_mk (by decide +kernel) rfl
set_option maxHeartbeats 4000000 in
set_option maxRecDepth 100000 in
theorem c_stop9 (l : Launch) (D : va_G) (cI cB cZ : ClassId) (h0 : Nat) (v0 : Value) (v1 : Value) (v2 : Value) (v3 : Value) (v4 : Value) (v5 : Value) (v6 : Value) (v7 : Value) (v8 : Value) (v9 : Value) (v10 : Value) (v11 : Value) (v12 : Value) (v13 : Value) (v14 : Value) (v15 : Value) (v16 : Value) (v17 : Value) (v18 : Value) (v19 : Value) (v20 : Value) (v21 : Value) (v22 : Value) (v23 : Value) (v24 : Value) (v25 : Value) (v26 : Value) (v27 : Value) (v28 : Value) (v31 : Value) (v32 : Value) (v33 : Value) (v34 : Value) (v35 : Value) (v37 : Value) (v38 : Value) (v39 : Value) (v40 : Value) (v41 : Value) (v42 : Value) (v43 : Value) (v44 : Value) (v45 : Value) (v46 : Value) (v47 : Value) (v48 : Value) (v49 : Value) (v50 : Value) (v51 : Value) (fk : Int32) (fp : Int32) (sd : Int32) (x : Int32) (y : Int32)  : gMi l yX9_stop wsP_c_stop9 ({ frames := 0, cells := 0, slots := 0, locals := 0 }) D cI cB cZ [] [.ref h0, .int x, .int y] [(h0, .inr (9, [v0, v1, v2, v3, v4, v5, v6, v7, v8, v9, v10, v11, v12, v13, v14, v15, v16, v17, v18, v19, v20, v21, v22, v23, v24, v25, v26, v27, v28, .int fk, .int fp, v31, v32, v33, v34, v35, .int sd, v37, v38, v39, v40, v41, v42, v43, v44, v45, v46, v47, v48, v49, v50, v51]))] (fun r9 w9 => r9 = 0 ∧ w9 = [(h0, .inr (9, [v0, v1, v2, v3, v4, v5, v6, v7, v8, v9, v10, v11, v12, v13, v14, v15, v16, v17, v18, v19, v20, v21, v22, v23, v24, v25, v26, v27, v28, .int x, .int y, v31, v32, v33, v34, v35, .int 1, v37, v38, v39, v40, v41, v42, v43, v44, v45, v46, v47, v48, v49, v50, v51]))]) := by
  refine gMi.of (cc := cX9_stop) (maxL := 3) (ret := (some .boolean)) (by decide) rfl (Nat.le_of_ble_eq_true rfl) (fun p e s m below meth c A ls hx hb hr hlk hml hts hown hin hA hP hK hD hS hN hl => ?_)
  have hown : s.vm.findClass RX9 = some m.cls := hown
  have hl : lv_has ls 3 [(0, .ref h0), (1, .int x), (2, .int y)] := hl
  refine lv_aload_n hx hb dX9_stop_0 rfl (lv_at hl 0 rfl) ?_
  refine lv_iload_n hx hb dX9_stop_1 rfl (lv_at hl 1 rfl) ?_
  refine va_put (D := D) (ci := 9) (v := .int x) (ty := .int) (C := RX9) (T := TX9) (N := 52) hx hb hts (fun _ h => List.mem_cons_of_mem _ (List.mem_append_left _ (List.mem_append_right _ h))) tyX9 tyX9_ok nmX9 hown hK hP hD hS 0 rfl rfl 29 (by decide) (hts (.fieldLink RX9 147 "LitmusHallModel" "faultKind" "I") (by decide +kernel)) (fun _ h9 => h9) rfl (by decide +kernel) rfl rfl (Nat.le_of_ble_eq_true rfl) dX9_stop_2 (fun H locs hP hD hS => ?_)
  have hP : va_P D vwCl [(h0, .inr (9, [v0, v1, v2, v3, v4, v5, v6, v7, v8, v9, v10, v11, v12, v13, v14, v15, v16, v17, v18, v19, v20, v21, v22, v23, v24, v25, v26, v27, v28, .int x, .int fp, v31, v32, v33, v34, v35, .int sd, v37, v38, v39, v40, v41, v42, v43, v44, v45, v46, v47, v48, v49, v50, v51]))] H := hP
  have hD : va_D A [(h0, .inr (9, [v0, v1, v2, v3, v4, v5, v6, v7, v8, v9, v10, v11, v12, v13, v14, v15, v16, v17, v18, v19, v20, v21, v22, v23, v24, v25, v26, v27, v28, .int x, .int fp, v31, v32, v33, v34, v35, .int sd, v37, v38, v39, v40, v41, v42, v43, v44, v45, v46, v47, v48, v49, v50, v51]))] := hD
  refine lv_aload_n hx hb dX9_stop_5 rfl (lv_at hl 0 rfl) ?_
  refine lv_iload_n hx hb dX9_stop_6 rfl (lv_at hl 2 rfl) ?_
  refine va_put (D := D) (ci := 9) (v := .int y) (ty := .int) (C := RX9) (T := TX9) (N := 52) hx hb hts (fun _ h => List.mem_cons_of_mem _ (List.mem_append_left _ (List.mem_append_right _ h))) tyX9 tyX9_ok nmX9 hown hK hP hD hS 0 rfl rfl 30 (by decide) (hts (.fieldLink RX9 92 "LitmusHallModel" "faultPlace" "I") (by decide +kernel)) (fun _ h9 => h9) rfl (by decide +kernel) rfl rfl (Nat.le_of_ble_eq_true rfl) dX9_stop_7 (fun H locs hP hD hS => ?_)
  have hP : va_P D vwCl [(h0, .inr (9, [v0, v1, v2, v3, v4, v5, v6, v7, v8, v9, v10, v11, v12, v13, v14, v15, v16, v17, v18, v19, v20, v21, v22, v23, v24, v25, v26, v27, v28, .int x, .int y, v31, v32, v33, v34, v35, .int sd, v37, v38, v39, v40, v41, v42, v43, v44, v45, v46, v47, v48, v49, v50, v51]))] H := hP
  have hD : va_D A [(h0, .inr (9, [v0, v1, v2, v3, v4, v5, v6, v7, v8, v9, v10, v11, v12, v13, v14, v15, v16, v17, v18, v19, v20, v21, v22, v23, v24, v25, v26, v27, v28, .int x, .int y, v31, v32, v33, v34, v35, .int sd, v37, v38, v39, v40, v41, v42, v43, v44, v45, v46, v47, v48, v49, v50, v51]))] := hD
  refine lv_aload_n hx hb dX9_stop_10 rfl (lv_at hl 0 rfl) ?_
  refine lv_iconst (v := 1) hx hb dX9_stop_11 (by decide) ?_
  refine va_put (D := D) (ci := 9) (v := .int 1) (ty := .boolean) (C := RX9) (T := TX9) (N := 52) hx hb hts (fun _ h => List.mem_cons_of_mem _ (List.mem_append_left _ (List.mem_append_right _ h))) tyX9 tyX9_ok nmX9 hown hK hP hD hS 0 rfl rfl 36 (by decide) (hts (.fieldLink RX9 150 "LitmusHallModel" "stopped" "Z") (by decide +kernel)) (fun _ h9 => h9) rfl (by decide +kernel) rfl rfl (Nat.le_of_ble_eq_true rfl) dX9_stop_12 (fun H locs hP hD hS => ?_)
  have hP : va_P D vwCl [(h0, .inr (9, [v0, v1, v2, v3, v4, v5, v6, v7, v8, v9, v10, v11, v12, v13, v14, v15, v16, v17, v18, v19, v20, v21, v22, v23, v24, v25, v26, v27, v28, .int x, .int y, v31, v32, v33, v34, v35, .int 1, v37, v38, v39, v40, v41, v42, v43, v44, v45, v46, v47, v48, v49, v50, v51]))] H := hP
  have hD : va_D A [(h0, .inr (9, [v0, v1, v2, v3, v4, v5, v6, v7, v8, v9, v10, v11, v12, v13, v14, v15, v16, v17, v18, v19, v20, v21, v22, v23, v24, v25, v26, v27, v28, .int x, .int y, v31, v32, v33, v34, v35, .int 1, v37, v38, v39, v40, v41, v42, v43, v44, v45, v46, v47, v48, v49, v50, v51]))] := hD
  refine lv_iconst (v := 0) hx hb dX9_stop_15 (by decide) ?_
  exact gx_zret (w' := [(h0, .inr (9, [v0, v1, v2, v3, v4, v5, v6, v7, v8, v9, v10, v11, v12, v13, v14, v15, v16, v17, v18, v19, v20, v21, v22, v23, v24, v25, v26, v27, v28, .int x, .int y, v31, v32, v33, v34, v35, .int 1, v37, v38, v39, v40, v41, v42, v43, v44, v45, v46, v47, v48, v49, v50, v51]))]) hx hb hr hlk hK hP hD hS (Nat.le_of_ble_eq_true rfl) (Nat.le_of_ble_eq_true rfl) dX9_stop_16 rfl ⟨rfl, rfl⟩