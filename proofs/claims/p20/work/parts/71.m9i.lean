theorem dX9_copyIns_0 : decode cX9_copyIns 0 = .ok (.aload_n 0, 1) := by decide +kernel
theorem dX9_copyIns_1 : decode cX9_copyIns 1 = .ok (.getfield 16, 3) := by decide +kernel
theorem dX9_copyIns_10 : decode cX9_copyIns 10 = .ok (.iaload, 1) := by decide +kernel
theorem dX9_copyIns_11 : decode cX9_copyIns 11 = .ok (.iastore, 1) := by decide +kernel
theorem dX9_copyIns_12 : decode cX9_copyIns 12 = .ok (.aload_n 0, 1) := by decide +kernel
theorem dX9_copyIns_13 : decode cX9_copyIns 13 = .ok (.getfield 19, 3) := by decide +kernel
theorem dX9_copyIns_16 : decode cX9_copyIns 16 = .ok (.iload_n 2, 1) := by decide +kernel
theorem dX9_copyIns_17 : decode cX9_copyIns 17 = .ok (.aload_n 0, 1) := by decide +kernel
theorem dX9_copyIns_18 : decode cX9_copyIns 18 = .ok (.getfield 19, 3) := by decide +kernel
theorem dX9_copyIns_21 : decode cX9_copyIns 21 = .ok (.iload_n 1, 1) := by decide +kernel
theorem dX9_copyIns_22 : decode cX9_copyIns 22 = .ok (.iaload, 1) := by decide +kernel
theorem dX9_copyIns_23 : decode cX9_copyIns 23 = .ok (.iastore, 1) := by decide +kernel
theorem dX9_copyIns_24 : decode cX9_copyIns 24 = .ok (.aload_n 0, 1) := by decide +kernel
theorem dX9_copyIns_25 : decode cX9_copyIns 25 = .ok (.getfield 22, 3) := by decide +kernel
theorem dX9_copyIns_28 : decode cX9_copyIns 28 = .ok (.iload_n 2, 1) := by decide +kernel
theorem dX9_copyIns_29 : decode cX9_copyIns 29 = .ok (.aload_n 0, 1) := by decide +kernel
theorem dX9_copyIns_30 : decode cX9_copyIns 30 = .ok (.getfield 22, 3) := by decide +kernel
theorem dX9_copyIns_33 : decode cX9_copyIns 33 = .ok (.iload_n 1, 1) := by decide +kernel
theorem dX9_copyIns_34 : decode cX9_copyIns 34 = .ok (.iaload, 1) := by decide +kernel
theorem dX9_copyIns_35 : decode cX9_copyIns 35 = .ok (.iastore, 1) := by decide +kernel
theorem dX9_copyIns_36 : decode cX9_copyIns 36 = .ok (.aload_n 0, 1) := by decide +kernel
theorem dX9_copyIns_37 : decode cX9_copyIns 37 = .ok (.getfield 25, 3) := by decide +kernel
theorem dX9_copyIns_4 : decode cX9_copyIns 4 = .ok (.iload_n 2, 1) := by decide +kernel
theorem dX9_copyIns_40 : decode cX9_copyIns 40 = .ok (.iload_n 2, 1) := by decide +kernel
theorem dX9_copyIns_41 : decode cX9_copyIns 41 = .ok (.aload_n 0, 1) := by decide +kernel
theorem dX9_copyIns_42 : decode cX9_copyIns 42 = .ok (.getfield 25, 3) := by decide +kernel
theorem dX9_copyIns_45 : decode cX9_copyIns 45 = .ok (.iload_n 1, 1) := by decide +kernel
theorem dX9_copyIns_46 : decode cX9_copyIns 46 = .ok (.iaload, 1) := by decide +kernel
theorem dX9_copyIns_47 : decode cX9_copyIns 47 = .ok (.iastore, 1) := by decide +kernel
theorem dX9_copyIns_48 : decode cX9_copyIns 48 = .ok (.aload_n 0, 1) := by decide +kernel
theorem dX9_copyIns_49 : decode cX9_copyIns 49 = .ok (.getfield 28, 3) := by decide +kernel
theorem dX9_copyIns_5 : decode cX9_copyIns 5 = .ok (.aload_n 0, 1) := by decide +kernel
theorem dX9_copyIns_52 : decode cX9_copyIns 52 = .ok (.iload_n 2, 1) := by decide +kernel
theorem dX9_copyIns_53 : decode cX9_copyIns 53 = .ok (.aload_n 0, 1) := by decide +kernel
theorem dX9_copyIns_54 : decode cX9_copyIns 54 = .ok (.getfield 28, 3) := by decide +kernel
theorem dX9_copyIns_57 : decode cX9_copyIns 57 = .ok (.iload_n 1, 1) := by decide +kernel
theorem dX9_copyIns_58 : decode cX9_copyIns 58 = .ok (.iaload, 1) := by decide +kernel
theorem dX9_copyIns_59 : decode cX9_copyIns 59 = .ok (.iastore, 1) := by decide +kernel
theorem dX9_copyIns_6 : decode cX9_copyIns 6 = .ok (.getfield 16, 3) := by decide +kernel
theorem dX9_copyIns_60 : decode cX9_copyIns 60 = .ok (.aload_n 0, 1) := by decide +kernel
theorem dX9_copyIns_61 : decode cX9_copyIns 61 = .ok (.getfield 31, 3) := by decide +kernel
theorem dX9_copyIns_64 : decode cX9_copyIns 64 = .ok (.iload_n 2, 1) := by decide +kernel
theorem dX9_copyIns_65 : decode cX9_copyIns 65 = .ok (.aload_n 0, 1) := by decide +kernel
theorem dX9_copyIns_66 : decode cX9_copyIns 66 = .ok (.getfield 31, 3) := by decide +kernel
theorem dX9_copyIns_69 : decode cX9_copyIns 69 = .ok (.iload_n 1, 1) := by decide +kernel
theorem dX9_copyIns_70 : decode cX9_copyIns 70 = .ok (.iaload, 1) := by decide +kernel
theorem dX9_copyIns_71 : decode cX9_copyIns 71 = .ok (.iastore, 1) := by decide +kernel
theorem dX9_copyIns_72 : decode cX9_copyIns 72 = .ok (.aload_n 0, 1) := by decide +kernel
theorem dX9_copyIns_73 : decode cX9_copyIns 73 = .ok (.getfield 34, 3) := by decide +kernel
theorem dX9_copyIns_76 : decode cX9_copyIns 76 = .ok (.iload_n 2, 1) := by decide +kernel
theorem dX9_copyIns_77 : decode cX9_copyIns 77 = .ok (.aload_n 0, 1) := by decide +kernel
theorem dX9_copyIns_78 : decode cX9_copyIns 78 = .ok (.getfield 34, 3) := by decide +kernel
theorem dX9_copyIns_81 : decode cX9_copyIns 81 = .ok (.iload_n 1, 1) := by decide +kernel
theorem dX9_copyIns_82 : decode cX9_copyIns 82 = .ok (.iaload, 1) := by decide +kernel
theorem dX9_copyIns_83 : decode cX9_copyIns 83 = .ok (.iastore, 1) := by decide +kernel
theorem dX9_copyIns_84 : decode cX9_copyIns 84 = .ok (.aload_n 0, 1) := by decide +kernel
theorem dX9_copyIns_85 : decode cX9_copyIns 85 = .ok (.getfield 37, 3) := by decide +kernel
theorem dX9_copyIns_88 : decode cX9_copyIns 88 = .ok (.iload_n 2, 1) := by decide +kernel
theorem dX9_copyIns_89 : decode cX9_copyIns 89 = .ok (.aload_n 0, 1) := by decide +kernel
theorem dX9_copyIns_9 : decode cX9_copyIns 9 = .ok (.iload_n 1, 1) := by decide +kernel
theorem dX9_copyIns_90 : decode cX9_copyIns 90 = .ok (.getfield 37, 3) := by decide +kernel
theorem dX9_copyIns_93 : decode cX9_copyIns 93 = .ok (.iload_n 1, 1) := by decide +kernel
theorem dX9_copyIns_94 : decode cX9_copyIns 94 = .ok (.iaload, 1) := by decide +kernel
theorem dX9_copyIns_95 : decode cX9_copyIns 95 = .ok (.iastore, 1) := by decide +kernel
theorem dX9_copyIns_96 : decode cX9_copyIns 96 = .ok (.return_, 1) := by decide +kernel
def wsP_c_copyIns9 : List Cond := .code yX9_copyIns cX9_copyIns 3 none :: (([.fieldLink RX9 16 "LitmusHallModel" "kind" "[I", .fieldLink RX9 19 "LitmusHallModel" "cellOf" "[I", .fieldLink RX9 22 "LitmusHallModel" "regOf" "[I", .fieldLink RX9 25 "LitmusHallModel" "valReg" "[I", .fieldLink RX9 28 "LitmusHallModel" "valInt" "[I", .fieldLink RX9 31 "LitmusHallModel" "val2Reg" "[I", .fieldLink RX9 34 "LitmusHallModel" "val2Int" "[I", .fieldLink RX9 37 "LitmusHallModel" "skip" "[I"] ++ wsX90) ++ [])
theorem gW_c_copyIns9 : wsP_c_copyIns9.all goodWord = true := by unfold wsP_c_copyIns9; exact gw_mk (by decide +kernel) rfl
set_option maxHeartbeats 4000000 in
set_option maxRecDepth 100000 in
theorem c_copyIns9 (l : Launch) (D : va_G) (cI cB cZ : ClassId) (h0 : Nat) (v0 : Value) (v1 : Value) (v10 : Value) (v11 : Value) (v12 : Value) (v13 : Value) (v14 : Value) (v15 : Value) (v16 : Value) (v17 : Value) (v18 : Value) (v19 : Value) (v20 : Value) (v21 : Value) (v22 : Value) (v23 : Value) (v24 : Value) (v25 : Value) (v26 : Value) (v27 : Value) (v28 : Value) (v29 : Value) (v30 : Value) (v31 : Value) (v32 : Value) (v33 : Value) (v34 : Value) (v35 : Value) (v36 : Value) (v37 : Value) (v38 : Value) (v39 : Value) (v40 : Value) (v41 : Value) (v42 : Value) (v43 : Value) (v44 : Value) (v45 : Value) (v46 : Value) (v47 : Value) (v48 : Value) (v49 : Value) (v50 : Value) (v51 : Value) (a2 : Nat) (a3 : Nat) (a4 : Nat) (a5 : Nat) (a6 : Nat) (a7 : Nat) (a8 : Nat) (a9 : Nat) (kd : Nat → Int32) (cl : Nat → Int32) (rg : Nat → Int32) (uv1 : Nat → Int32) (ui1 : Nat → Int32) (uv2 : Nat → Int32) (ui2 : Nat → Int32) (sk : Nat → Int32) (i : Nat) (t : Nat) (hi : i < 108) (ht : t < 108) : gMv l yX9_copyIns wsP_c_copyIns9 ({ frames := 0, cells := 0, slots := 0, locals := 0 }) D cI cB cZ [] [.ref h0, .int (nI i), .int (nI t)] [(h0, .inr (9, [v0, v1, .ref a2, .ref a3, .ref a4, .ref a5, .ref a6, .ref a7, .ref a8, .ref a9, v10, v11, v12, v13, v14, v15, v16, v17, v18, v19, v20, v21, v22, v23, v24, v25, v26, v27, v28, v29, v30, v31, v32, v33, v34, v35, v36, v37, v38, v39, v40, v41, v42, v43, v44, v45, v46, v47, v48, v49, v50, v51])), (a2, .inl (cI, 108, .inl kd)), (a3, .inl (cI, 108, .inl cl)), (a4, .inl (cI, 108, .inl rg)), (a5, .inl (cI, 108, .inl uv1)), (a6, .inl (cI, 108, .inl ui1)), (a7, .inl (cI, 108, .inl uv2)), (a8, .inl (cI, 108, .inl ui2)), (a9, .inl (cI, 108, .inl sk))] (fun w9 => w9 = [(h0, .inr (9, [v0, v1, .ref a2, .ref a3, .ref a4, .ref a5, .ref a6, .ref a7, .ref a8, .ref a9, v10, v11, v12, v13, v14, v15, v16, v17, v18, v19, v20, v21, v22, v23, v24, v25, v26, v27, v28, v29, v30, v31, v32, v33, v34, v35, v36, v37, v38, v39, v40, v41, v42, v43, v44, v45, v46, v47, v48, v49, v50, v51])), (a2, .inl (cI, 108, .inl (upd kd t (kd i)))), (a3, .inl (cI, 108, .inl (upd cl t (cl i)))), (a4, .inl (cI, 108, .inl (upd rg t (rg i)))), (a5, .inl (cI, 108, .inl (upd uv1 t (uv1 i)))), (a6, .inl (cI, 108, .inl (upd ui1 t (ui1 i)))), (a7, .inl (cI, 108, .inl (upd uv2 t (uv2 i)))), (a8, .inl (cI, 108, .inl (upd ui2 t (ui2 i)))), (a9, .inl (cI, 108, .inl (upd sk t (sk i))))]) := by
  refine gMv.of (cc := cX9_copyIns) (maxL := 3) (ret := none) (by decide) rfl (Nat.le_of_ble_eq_true rfl) (fun p e s m below meth c A ls hx hb hr hlk hml hts hown hin hA hP hK hD hS hN hl => ?_)
  have hown : s.vm.findClass RX9 = some m.cls := hown
  have hl : lv_has ls 3 [(0, .ref h0), (1, .int (nI i)), (2, .int (nI t))] := hl
  refine lv_aload_n hx hb dX9_copyIns_0 rfl (lv_at hl 0 rfl) ?_
  refine va_get (D := D) (ci := 9) (v := .ref a2) (C := RX9) (T := TX9) (N := 52) hx hb hts (fun _ h => List.mem_cons_of_mem _ (List.mem_append_left _ (List.mem_append_right _ h))) hown hK hP 0 rfl rfl 2 (by decide) (hts (.fieldLink RX9 16 "LitmusHallModel" "kind" "[I") (by decide +kernel)) (fun _ h9 => h9) rfl dX9_copyIns_1 ?_
  refine lv_iload_n hx hb dX9_copyIns_4 rfl (lv_at hl 2 rfl) ?_
  refine lv_aload_n hx hb dX9_copyIns_5 rfl (lv_at hl 0 rfl) ?_
  refine va_get (D := D) (ci := 9) (v := .ref a2) (C := RX9) (T := TX9) (N := 52) hx hb hts (fun _ h => List.mem_cons_of_mem _ (List.mem_append_left _ (List.mem_append_right _ h))) hown hK hP 0 rfl rfl 2 (by decide) (hts (.fieldLink RX9 16 "LitmusHallModel" "kind" "[I") (by decide +kernel)) (fun _ h9 => h9) rfl dX9_copyIns_6 ?_
  refine lv_iload_n hx hb dX9_copyIns_9 rfl (lv_at hl 1 rfl) ?_
  refine gy_ild (i := i) hx hb hK hP 1 rfl (by omega) (by omega) dX9_copyIns_10 ?_
  refine gy_ist (i := t) hx hb hK hP hD hS 1 rfl (by omega) (by omega) dX9_copyIns_11 (fun H locs hP hD hS => ?_)
  have hP : va_P D vwCl [(h0, .inr (9, [v0, v1, .ref a2, .ref a3, .ref a4, .ref a5, .ref a6, .ref a7, .ref a8, .ref a9, v10, v11, v12, v13, v14, v15, v16, v17, v18, v19, v20, v21, v22, v23, v24, v25, v26, v27, v28, v29, v30, v31, v32, v33, v34, v35, v36, v37, v38, v39, v40, v41, v42, v43, v44, v45, v46, v47, v48, v49, v50, v51])), (a2, .inl (cI, 108, .inl (upd kd t (kd i)))), (a3, .inl (cI, 108, .inl cl)), (a4, .inl (cI, 108, .inl rg)), (a5, .inl (cI, 108, .inl uv1)), (a6, .inl (cI, 108, .inl ui1)), (a7, .inl (cI, 108, .inl uv2)), (a8, .inl (cI, 108, .inl ui2)), (a9, .inl (cI, 108, .inl sk))] H := hP
  have hD : va_D A [(h0, .inr (9, [v0, v1, .ref a2, .ref a3, .ref a4, .ref a5, .ref a6, .ref a7, .ref a8, .ref a9, v10, v11, v12, v13, v14, v15, v16, v17, v18, v19, v20, v21, v22, v23, v24, v25, v26, v27, v28, v29, v30, v31, v32, v33, v34, v35, v36, v37, v38, v39, v40, v41, v42, v43, v44, v45, v46, v47, v48, v49, v50, v51])), (a2, .inl (cI, 108, .inl (upd kd t (kd i)))), (a3, .inl (cI, 108, .inl cl)), (a4, .inl (cI, 108, .inl rg)), (a5, .inl (cI, 108, .inl uv1)), (a6, .inl (cI, 108, .inl ui1)), (a7, .inl (cI, 108, .inl uv2)), (a8, .inl (cI, 108, .inl ui2)), (a9, .inl (cI, 108, .inl sk))] := hD
  refine lv_aload_n hx hb dX9_copyIns_12 rfl (lv_at hl 0 rfl) ?_
  refine va_get (D := D) (ci := 9) (v := .ref a3) (C := RX9) (T := TX9) (N := 52) hx hb hts (fun _ h => List.mem_cons_of_mem _ (List.mem_append_left _ (List.mem_append_right _ h))) hown hK hP 0 rfl rfl 3 (by decide) (hts (.fieldLink RX9 19 "LitmusHallModel" "cellOf" "[I") (by decide +kernel)) (fun _ h9 => h9) rfl dX9_copyIns_13 ?_
  refine lv_iload_n hx hb dX9_copyIns_16 rfl (lv_at hl 2 rfl) ?_
  refine lv_aload_n hx hb dX9_copyIns_17 rfl (lv_at hl 0 rfl) ?_
  refine va_get (D := D) (ci := 9) (v := .ref a3) (C := RX9) (T := TX9) (N := 52) hx hb hts (fun _ h => List.mem_cons_of_mem _ (List.mem_append_left _ (List.mem_append_right _ h))) hown hK hP 0 rfl rfl 3 (by decide) (hts (.fieldLink RX9 19 "LitmusHallModel" "cellOf" "[I") (by decide +kernel)) (fun _ h9 => h9) rfl dX9_copyIns_18 ?_
  refine lv_iload_n hx hb dX9_copyIns_21 rfl (lv_at hl 1 rfl) ?_
  refine gy_ild (i := i) hx hb hK hP 2 rfl (by omega) (by omega) dX9_copyIns_22 ?_
  refine gy_ist (i := t) hx hb hK hP hD hS 2 rfl (by omega) (by omega) dX9_copyIns_23 (fun H locs hP hD hS => ?_)
  have hP : va_P D vwCl [(h0, .inr (9, [v0, v1, .ref a2, .ref a3, .ref a4, .ref a5, .ref a6, .ref a7, .ref a8, .ref a9, v10, v11, v12, v13, v14, v15, v16, v17, v18, v19, v20, v21, v22, v23, v24, v25, v26, v27, v28, v29, v30, v31, v32, v33, v34, v35, v36, v37, v38, v39, v40, v41, v42, v43, v44, v45, v46, v47, v48, v49, v50, v51])), (a2, .inl (cI, 108, .inl (upd kd t (kd i)))), (a3, .inl (cI, 108, .inl (upd cl t (cl i)))), (a4, .inl (cI, 108, .inl rg)), (a5, .inl (cI, 108, .inl uv1)), (a6, .inl (cI, 108, .inl ui1)), (a7, .inl (cI, 108, .inl uv2)), (a8, .inl (cI, 108, .inl ui2)), (a9, .inl (cI, 108, .inl sk))] H := hP
  have hD : va_D A [(h0, .inr (9, [v0, v1, .ref a2, .ref a3, .ref a4, .ref a5, .ref a6, .ref a7, .ref a8, .ref a9, v10, v11, v12, v13, v14, v15, v16, v17, v18, v19, v20, v21, v22, v23, v24, v25, v26, v27, v28, v29, v30, v31, v32, v33, v34, v35, v36, v37, v38, v39, v40, v41, v42, v43, v44, v45, v46, v47, v48, v49, v50, v51])), (a2, .inl (cI, 108, .inl (upd kd t (kd i)))), (a3, .inl (cI, 108, .inl (upd cl t (cl i)))), (a4, .inl (cI, 108, .inl rg)), (a5, .inl (cI, 108, .inl uv1)), (a6, .inl (cI, 108, .inl ui1)), (a7, .inl (cI, 108, .inl uv2)), (a8, .inl (cI, 108, .inl ui2)), (a9, .inl (cI, 108, .inl sk))] := hD
  refine lv_aload_n hx hb dX9_copyIns_24 rfl (lv_at hl 0 rfl) ?_
  refine va_get (D := D) (ci := 9) (v := .ref a4) (C := RX9) (T := TX9) (N := 52) hx hb hts (fun _ h => List.mem_cons_of_mem _ (List.mem_append_left _ (List.mem_append_right _ h))) hown hK hP 0 rfl rfl 4 (by decide) (hts (.fieldLink RX9 22 "LitmusHallModel" "regOf" "[I") (by decide +kernel)) (fun _ h9 => h9) rfl dX9_copyIns_25 ?_
  refine lv_iload_n hx hb dX9_copyIns_28 rfl (lv_at hl 2 rfl) ?_
  refine lv_aload_n hx hb dX9_copyIns_29 rfl (lv_at hl 0 rfl) ?_
  refine va_get (D := D) (ci := 9) (v := .ref a4) (C := RX9) (T := TX9) (N := 52) hx hb hts (fun _ h => List.mem_cons_of_mem _ (List.mem_append_left _ (List.mem_append_right _ h))) hown hK hP 0 rfl rfl 4 (by decide) (hts (.fieldLink RX9 22 "LitmusHallModel" "regOf" "[I") (by decide +kernel)) (fun _ h9 => h9) rfl dX9_copyIns_30 ?_
  refine lv_iload_n hx hb dX9_copyIns_33 rfl (lv_at hl 1 rfl) ?_
  refine gy_ild (i := i) hx hb hK hP 3 rfl (by omega) (by omega) dX9_copyIns_34 ?_
  refine gy_ist (i := t) hx hb hK hP hD hS 3 rfl (by omega) (by omega) dX9_copyIns_35 (fun H locs hP hD hS => ?_)
  have hP : va_P D vwCl [(h0, .inr (9, [v0, v1, .ref a2, .ref a3, .ref a4, .ref a5, .ref a6, .ref a7, .ref a8, .ref a9, v10, v11, v12, v13, v14, v15, v16, v17, v18, v19, v20, v21, v22, v23, v24, v25, v26, v27, v28, v29, v30, v31, v32, v33, v34, v35, v36, v37, v38, v39, v40, v41, v42, v43, v44, v45, v46, v47, v48, v49, v50, v51])), (a2, .inl (cI, 108, .inl (upd kd t (kd i)))), (a3, .inl (cI, 108, .inl (upd cl t (cl i)))), (a4, .inl (cI, 108, .inl (upd rg t (rg i)))), (a5, .inl (cI, 108, .inl uv1)), (a6, .inl (cI, 108, .inl ui1)), (a7, .inl (cI, 108, .inl uv2)), (a8, .inl (cI, 108, .inl ui2)), (a9, .inl (cI, 108, .inl sk))] H := hP
  have hD : va_D A [(h0, .inr (9, [v0, v1, .ref a2, .ref a3, .ref a4, .ref a5, .ref a6, .ref a7, .ref a8, .ref a9, v10, v11, v12, v13, v14, v15, v16, v17, v18, v19, v20, v21, v22, v23, v24, v25, v26, v27, v28, v29, v30, v31, v32, v33, v34, v35, v36, v37, v38, v39, v40, v41, v42, v43, v44, v45, v46, v47, v48, v49, v50, v51])), (a2, .inl (cI, 108, .inl (upd kd t (kd i)))), (a3, .inl (cI, 108, .inl (upd cl t (cl i)))), (a4, .inl (cI, 108, .inl (upd rg t (rg i)))), (a5, .inl (cI, 108, .inl uv1)), (a6, .inl (cI, 108, .inl ui1)), (a7, .inl (cI, 108, .inl uv2)), (a8, .inl (cI, 108, .inl ui2)), (a9, .inl (cI, 108, .inl sk))] := hD
  refine lv_aload_n hx hb dX9_copyIns_36 rfl (lv_at hl 0 rfl) ?_
  refine va_get (D := D) (ci := 9) (v := .ref a5) (C := RX9) (T := TX9) (N := 52) hx hb hts (fun _ h => List.mem_cons_of_mem _ (List.mem_append_left _ (List.mem_append_right _ h))) hown hK hP 0 rfl rfl 5 (by decide) (hts (.fieldLink RX9 25 "LitmusHallModel" "valReg" "[I") (by decide +kernel)) (fun _ h9 => h9) rfl dX9_copyIns_37 ?_
  refine lv_iload_n hx hb dX9_copyIns_40 rfl (lv_at hl 2 rfl) ?_
  refine lv_aload_n hx hb dX9_copyIns_41 rfl (lv_at hl 0 rfl) ?_
  refine va_get (D := D) (ci := 9) (v := .ref a5) (C := RX9) (T := TX9) (N := 52) hx hb hts (fun _ h => List.mem_cons_of_mem _ (List.mem_append_left _ (List.mem_append_right _ h))) hown hK hP 0 rfl rfl 5 (by decide) (hts (.fieldLink RX9 25 "LitmusHallModel" "valReg" "[I") (by decide +kernel)) (fun _ h9 => h9) rfl dX9_copyIns_42 ?_
  refine lv_iload_n hx hb dX9_copyIns_45 rfl (lv_at hl 1 rfl) ?_
  refine gy_ild (i := i) hx hb hK hP 4 rfl (by omega) (by omega) dX9_copyIns_46 ?_
  refine gy_ist (i := t) hx hb hK hP hD hS 4 rfl (by omega) (by omega) dX9_copyIns_47 (fun H locs hP hD hS => ?_)
  have hP : va_P D vwCl [(h0, .inr (9, [v0, v1, .ref a2, .ref a3, .ref a4, .ref a5, .ref a6, .ref a7, .ref a8, .ref a9, v10, v11, v12, v13, v14, v15, v16, v17, v18, v19, v20, v21, v22, v23, v24, v25, v26, v27, v28, v29, v30, v31, v32, v33, v34, v35, v36, v37, v38, v39, v40, v41, v42, v43, v44, v45, v46, v47, v48, v49, v50, v51])), (a2, .inl (cI, 108, .inl (upd kd t (kd i)))), (a3, .inl (cI, 108, .inl (upd cl t (cl i)))), (a4, .inl (cI, 108, .inl (upd rg t (rg i)))), (a5, .inl (cI, 108, .inl (upd uv1 t (uv1 i)))), (a6, .inl (cI, 108, .inl ui1)), (a7, .inl (cI, 108, .inl uv2)), (a8, .inl (cI, 108, .inl ui2)), (a9, .inl (cI, 108, .inl sk))] H := hP
  have hD : va_D A [(h0, .inr (9, [v0, v1, .ref a2, .ref a3, .ref a4, .ref a5, .ref a6, .ref a7, .ref a8, .ref a9, v10, v11, v12, v13, v14, v15, v16, v17, v18, v19, v20, v21, v22, v23, v24, v25, v26, v27, v28, v29, v30, v31, v32, v33, v34, v35, v36, v37, v38, v39, v40, v41, v42, v43, v44, v45, v46, v47, v48, v49, v50, v51])), (a2, .inl (cI, 108, .inl (upd kd t (kd i)))), (a3, .inl (cI, 108, .inl (upd cl t (cl i)))), (a4, .inl (cI, 108, .inl (upd rg t (rg i)))), (a5, .inl (cI, 108, .inl (upd uv1 t (uv1 i)))), (a6, .inl (cI, 108, .inl ui1)), (a7, .inl (cI, 108, .inl uv2)), (a8, .inl (cI, 108, .inl ui2)), (a9, .inl (cI, 108, .inl sk))] := hD
  refine lv_aload_n hx hb dX9_copyIns_48 rfl (lv_at hl 0 rfl) ?_
  refine va_get (D := D) (ci := 9) (v := .ref a6) (C := RX9) (T := TX9) (N := 52) hx hb hts (fun _ h => List.mem_cons_of_mem _ (List.mem_append_left _ (List.mem_append_right _ h))) hown hK hP 0 rfl rfl 6 (by decide) (hts (.fieldLink RX9 28 "LitmusHallModel" "valInt" "[I") (by decide +kernel)) (fun _ h9 => h9) rfl dX9_copyIns_49 ?_
  refine lv_iload_n hx hb dX9_copyIns_52 rfl (lv_at hl 2 rfl) ?_
  refine lv_aload_n hx hb dX9_copyIns_53 rfl (lv_at hl 0 rfl) ?_
  refine va_get (D := D) (ci := 9) (v := .ref a6) (C := RX9) (T := TX9) (N := 52) hx hb hts (fun _ h => List.mem_cons_of_mem _ (List.mem_append_left _ (List.mem_append_right _ h))) hown hK hP 0 rfl rfl 6 (by decide) (hts (.fieldLink RX9 28 "LitmusHallModel" "valInt" "[I") (by decide +kernel)) (fun _ h9 => h9) rfl dX9_copyIns_54 ?_
  refine lv_iload_n hx hb dX9_copyIns_57 rfl (lv_at hl 1 rfl) ?_
  refine gy_ild (i := i) hx hb hK hP 5 rfl (by omega) (by omega) dX9_copyIns_58 ?_
  refine gy_ist (i := t) hx hb hK hP hD hS 5 rfl (by omega) (by omega) dX9_copyIns_59 (fun H locs hP hD hS => ?_)
  have hP : va_P D vwCl [(h0, .inr (9, [v0, v1, .ref a2, .ref a3, .ref a4, .ref a5, .ref a6, .ref a7, .ref a8, .ref a9, v10, v11, v12, v13, v14, v15, v16, v17, v18, v19, v20, v21, v22, v23, v24, v25, v26, v27, v28, v29, v30, v31, v32, v33, v34, v35, v36, v37, v38, v39, v40, v41, v42, v43, v44, v45, v46, v47, v48, v49, v50, v51])), (a2, .inl (cI, 108, .inl (upd kd t (kd i)))), (a3, .inl (cI, 108, .inl (upd cl t (cl i)))), (a4, .inl (cI, 108, .inl (upd rg t (rg i)))), (a5, .inl (cI, 108, .inl (upd uv1 t (uv1 i)))), (a6, .inl (cI, 108, .inl (upd ui1 t (ui1 i)))), (a7, .inl (cI, 108, .inl uv2)), (a8, .inl (cI, 108, .inl ui2)), (a9, .inl (cI, 108, .inl sk))] H := hP
  have hD : va_D A [(h0, .inr (9, [v0, v1, .ref a2, .ref a3, .ref a4, .ref a5, .ref a6, .ref a7, .ref a8, .ref a9, v10, v11, v12, v13, v14, v15, v16, v17, v18, v19, v20, v21, v22, v23, v24, v25, v26, v27, v28, v29, v30, v31, v32, v33, v34, v35, v36, v37, v38, v39, v40, v41, v42, v43, v44, v45, v46, v47, v48, v49, v50, v51])), (a2, .inl (cI, 108, .inl (upd kd t (kd i)))), (a3, .inl (cI, 108, .inl (upd cl t (cl i)))), (a4, .inl (cI, 108, .inl (upd rg t (rg i)))), (a5, .inl (cI, 108, .inl (upd uv1 t (uv1 i)))), (a6, .inl (cI, 108, .inl (upd ui1 t (ui1 i)))), (a7, .inl (cI, 108, .inl uv2)), (a8, .inl (cI, 108, .inl ui2)), (a9, .inl (cI, 108, .inl sk))] := hD
  refine lv_aload_n hx hb dX9_copyIns_60 rfl (lv_at hl 0 rfl) ?_
  refine va_get (D := D) (ci := 9) (v := .ref a7) (C := RX9) (T := TX9) (N := 52) hx hb hts (fun _ h => List.mem_cons_of_mem _ (List.mem_append_left _ (List.mem_append_right _ h))) hown hK hP 0 rfl rfl 7 (by decide) (hts (.fieldLink RX9 31 "LitmusHallModel" "val2Reg" "[I") (by decide +kernel)) (fun _ h9 => h9) rfl dX9_copyIns_61 ?_
  refine lv_iload_n hx hb dX9_copyIns_64 rfl (lv_at hl 2 rfl) ?_
  refine lv_aload_n hx hb dX9_copyIns_65 rfl (lv_at hl 0 rfl) ?_
  refine va_get (D := D) (ci := 9) (v := .ref a7) (C := RX9) (T := TX9) (N := 52) hx hb hts (fun _ h => List.mem_cons_of_mem _ (List.mem_append_left _ (List.mem_append_right _ h))) hown hK hP 0 rfl rfl 7 (by decide) (hts (.fieldLink RX9 31 "LitmusHallModel" "val2Reg" "[I") (by decide +kernel)) (fun _ h9 => h9) rfl dX9_copyIns_66 ?_
  refine lv_iload_n hx hb dX9_copyIns_69 rfl (lv_at hl 1 rfl) ?_
  refine gy_ild (i := i) hx hb hK hP 6 rfl (by omega) (by omega) dX9_copyIns_70 ?_
  refine gy_ist (i := t) hx hb hK hP hD hS 6 rfl (by omega) (by omega) dX9_copyIns_71 (fun H locs hP hD hS => ?_)
  have hP : va_P D vwCl [(h0, .inr (9, [v0, v1, .ref a2, .ref a3, .ref a4, .ref a5, .ref a6, .ref a7, .ref a8, .ref a9, v10, v11, v12, v13, v14, v15, v16, v17, v18, v19, v20, v21, v22, v23, v24, v25, v26, v27, v28, v29, v30, v31, v32, v33, v34, v35, v36, v37, v38, v39, v40, v41, v42, v43, v44, v45, v46, v47, v48, v49, v50, v51])), (a2, .inl (cI, 108, .inl (upd kd t (kd i)))), (a3, .inl (cI, 108, .inl (upd cl t (cl i)))), (a4, .inl (cI, 108, .inl (upd rg t (rg i)))), (a5, .inl (cI, 108, .inl (upd uv1 t (uv1 i)))), (a6, .inl (cI, 108, .inl (upd ui1 t (ui1 i)))), (a7, .inl (cI, 108, .inl (upd uv2 t (uv2 i)))), (a8, .inl (cI, 108, .inl ui2)), (a9, .inl (cI, 108, .inl sk))] H := hP
  have hD : va_D A [(h0, .inr (9, [v0, v1, .ref a2, .ref a3, .ref a4, .ref a5, .ref a6, .ref a7, .ref a8, .ref a9, v10, v11, v12, v13, v14, v15, v16, v17, v18, v19, v20, v21, v22, v23, v24, v25, v26, v27, v28, v29, v30, v31, v32, v33, v34, v35, v36, v37, v38, v39, v40, v41, v42, v43, v44, v45, v46, v47, v48, v49, v50, v51])), (a2, .inl (cI, 108, .inl (upd kd t (kd i)))), (a3, .inl (cI, 108, .inl (upd cl t (cl i)))), (a4, .inl (cI, 108, .inl (upd rg t (rg i)))), (a5, .inl (cI, 108, .inl (upd uv1 t (uv1 i)))), (a6, .inl (cI, 108, .inl (upd ui1 t (ui1 i)))), (a7, .inl (cI, 108, .inl (upd uv2 t (uv2 i)))), (a8, .inl (cI, 108, .inl ui2)), (a9, .inl (cI, 108, .inl sk))] := hD
  refine lv_aload_n hx hb dX9_copyIns_72 rfl (lv_at hl 0 rfl) ?_
  refine va_get (D := D) (ci := 9) (v := .ref a8) (C := RX9) (T := TX9) (N := 52) hx hb hts (fun _ h => List.mem_cons_of_mem _ (List.mem_append_left _ (List.mem_append_right _ h))) hown hK hP 0 rfl rfl 8 (by decide) (hts (.fieldLink RX9 34 "LitmusHallModel" "val2Int" "[I") (by decide +kernel)) (fun _ h9 => h9) rfl dX9_copyIns_73 ?_
  refine lv_iload_n hx hb dX9_copyIns_76 rfl (lv_at hl 2 rfl) ?_
  refine lv_aload_n hx hb dX9_copyIns_77 rfl (lv_at hl 0 rfl) ?_
  refine va_get (D := D) (ci := 9) (v := .ref a8) (C := RX9) (T := TX9) (N := 52) hx hb hts (fun _ h => List.mem_cons_of_mem _ (List.mem_append_left _ (List.mem_append_right _ h))) hown hK hP 0 rfl rfl 8 (by decide) (hts (.fieldLink RX9 34 "LitmusHallModel" "val2Int" "[I") (by decide +kernel)) (fun _ h9 => h9) rfl dX9_copyIns_78 ?_
  refine lv_iload_n hx hb dX9_copyIns_81 rfl (lv_at hl 1 rfl) ?_
  refine gy_ild (i := i) hx hb hK hP 7 rfl (by omega) (by omega) dX9_copyIns_82 ?_
  refine gy_ist (i := t) hx hb hK hP hD hS 7 rfl (by omega) (by omega) dX9_copyIns_83 (fun H locs hP hD hS => ?_)
  have hP : va_P D vwCl [(h0, .inr (9, [v0, v1, .ref a2, .ref a3, .ref a4, .ref a5, .ref a6, .ref a7, .ref a8, .ref a9, v10, v11, v12, v13, v14, v15, v16, v17, v18, v19, v20, v21, v22, v23, v24, v25, v26, v27, v28, v29, v30, v31, v32, v33, v34, v35, v36, v37, v38, v39, v40, v41, v42, v43, v44, v45, v46, v47, v48, v49, v50, v51])), (a2, .inl (cI, 108, .inl (upd kd t (kd i)))), (a3, .inl (cI, 108, .inl (upd cl t (cl i)))), (a4, .inl (cI, 108, .inl (upd rg t (rg i)))), (a5, .inl (cI, 108, .inl (upd uv1 t (uv1 i)))), (a6, .inl (cI, 108, .inl (upd ui1 t (ui1 i)))), (a7, .inl (cI, 108, .inl (upd uv2 t (uv2 i)))), (a8, .inl (cI, 108, .inl (upd ui2 t (ui2 i)))), (a9, .inl (cI, 108, .inl sk))] H := hP
  have hD : va_D A [(h0, .inr (9, [v0, v1, .ref a2, .ref a3, .ref a4, .ref a5, .ref a6, .ref a7, .ref a8, .ref a9, v10, v11, v12, v13, v14, v15, v16, v17, v18, v19, v20, v21, v22, v23, v24, v25, v26, v27, v28, v29, v30, v31, v32, v33, v34, v35, v36, v37, v38, v39, v40, v41, v42, v43, v44, v45, v46, v47, v48, v49, v50, v51])), (a2, .inl (cI, 108, .inl (upd kd t (kd i)))), (a3, .inl (cI, 108, .inl (upd cl t (cl i)))), (a4, .inl (cI, 108, .inl (upd rg t (rg i)))), (a5, .inl (cI, 108, .inl (upd uv1 t (uv1 i)))), (a6, .inl (cI, 108, .inl (upd ui1 t (ui1 i)))), (a7, .inl (cI, 108, .inl (upd uv2 t (uv2 i)))), (a8, .inl (cI, 108, .inl (upd ui2 t (ui2 i)))), (a9, .inl (cI, 108, .inl sk))] := hD
  refine lv_aload_n hx hb dX9_copyIns_84 rfl (lv_at hl 0 rfl) ?_
  refine va_get (D := D) (ci := 9) (v := .ref a9) (C := RX9) (T := TX9) (N := 52) hx hb hts (fun _ h => List.mem_cons_of_mem _ (List.mem_append_left _ (List.mem_append_right _ h))) hown hK hP 0 rfl rfl 9 (by decide) (hts (.fieldLink RX9 37 "LitmusHallModel" "skip" "[I") (by decide +kernel)) (fun _ h9 => h9) rfl dX9_copyIns_85 ?_
  refine lv_iload_n hx hb dX9_copyIns_88 rfl (lv_at hl 2 rfl) ?_
  refine lv_aload_n hx hb dX9_copyIns_89 rfl (lv_at hl 0 rfl) ?_
  refine va_get (D := D) (ci := 9) (v := .ref a9) (C := RX9) (T := TX9) (N := 52) hx hb hts (fun _ h => List.mem_cons_of_mem _ (List.mem_append_left _ (List.mem_append_right _ h))) hown hK hP 0 rfl rfl 9 (by decide) (hts (.fieldLink RX9 37 "LitmusHallModel" "skip" "[I") (by decide +kernel)) (fun _ h9 => h9) rfl dX9_copyIns_90 ?_
  refine lv_iload_n hx hb dX9_copyIns_93 rfl (lv_at hl 1 rfl) ?_
  refine gy_ild (i := i) hx hb hK hP 8 rfl (by omega) (by omega) dX9_copyIns_94 ?_
  refine gy_ist (i := t) hx hb hK hP hD hS 8 rfl (by omega) (by omega) dX9_copyIns_95 (fun H locs hP hD hS => ?_)
  have hP : va_P D vwCl [(h0, .inr (9, [v0, v1, .ref a2, .ref a3, .ref a4, .ref a5, .ref a6, .ref a7, .ref a8, .ref a9, v10, v11, v12, v13, v14, v15, v16, v17, v18, v19, v20, v21, v22, v23, v24, v25, v26, v27, v28, v29, v30, v31, v32, v33, v34, v35, v36, v37, v38, v39, v40, v41, v42, v43, v44, v45, v46, v47, v48, v49, v50, v51])), (a2, .inl (cI, 108, .inl (upd kd t (kd i)))), (a3, .inl (cI, 108, .inl (upd cl t (cl i)))), (a4, .inl (cI, 108, .inl (upd rg t (rg i)))), (a5, .inl (cI, 108, .inl (upd uv1 t (uv1 i)))), (a6, .inl (cI, 108, .inl (upd ui1 t (ui1 i)))), (a7, .inl (cI, 108, .inl (upd uv2 t (uv2 i)))), (a8, .inl (cI, 108, .inl (upd ui2 t (ui2 i)))), (a9, .inl (cI, 108, .inl (upd sk t (sk i))))] H := hP
  have hD : va_D A [(h0, .inr (9, [v0, v1, .ref a2, .ref a3, .ref a4, .ref a5, .ref a6, .ref a7, .ref a8, .ref a9, v10, v11, v12, v13, v14, v15, v16, v17, v18, v19, v20, v21, v22, v23, v24, v25, v26, v27, v28, v29, v30, v31, v32, v33, v34, v35, v36, v37, v38, v39, v40, v41, v42, v43, v44, v45, v46, v47, v48, v49, v50, v51])), (a2, .inl (cI, 108, .inl (upd kd t (kd i)))), (a3, .inl (cI, 108, .inl (upd cl t (cl i)))), (a4, .inl (cI, 108, .inl (upd rg t (rg i)))), (a5, .inl (cI, 108, .inl (upd uv1 t (uv1 i)))), (a6, .inl (cI, 108, .inl (upd ui1 t (ui1 i)))), (a7, .inl (cI, 108, .inl (upd uv2 t (uv2 i)))), (a8, .inl (cI, 108, .inl (upd ui2 t (ui2 i)))), (a9, .inl (cI, 108, .inl (upd sk t (sk i))))] := hD
  exact gx_vret (w' := [(h0, .inr (9, [v0, v1, .ref a2, .ref a3, .ref a4, .ref a5, .ref a6, .ref a7, .ref a8, .ref a9, v10, v11, v12, v13, v14, v15, v16, v17, v18, v19, v20, v21, v22, v23, v24, v25, v26, v27, v28, v29, v30, v31, v32, v33, v34, v35, v36, v37, v38, v39, v40, v41, v42, v43, v44, v45, v46, v47, v48, v49, v50, v51])), (a2, .inl (cI, 108, .inl (upd kd t (kd i)))), (a3, .inl (cI, 108, .inl (upd cl t (cl i)))), (a4, .inl (cI, 108, .inl (upd rg t (rg i)))), (a5, .inl (cI, 108, .inl (upd uv1 t (uv1 i)))), (a6, .inl (cI, 108, .inl (upd ui1 t (ui1 i)))), (a7, .inl (cI, 108, .inl (upd uv2 t (uv2 i)))), (a8, .inl (cI, 108, .inl (upd ui2 t (ui2 i)))), (a9, .inl (cI, 108, .inl (upd sk t (sk i))))]) hx hb hr hlk hK hP hD hS (Nat.le_of_ble_eq_true rfl) (Nat.le_of_ble_eq_true rfl) dX9_copyIns_96 rfl
