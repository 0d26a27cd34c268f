theorem dX9_ins_0 : decode cX9_ins 0 = .ok (.aload_n 0, 1) := by decide +kernel
theorem dX9_ins_1 : decode cX9_ins 1 = .ok (.getfield 224, 3) := by decide +kernel
theorem dX9_ins_100 : decode cX9_ins 100 = .ok (.aload_n 0, 1) := by decide +kernel
theorem dX9_ins_101 : decode cX9_ins 101 = .ok (.getfield 19, 3) := by decide +kernel
theorem dX9_ins_104 : decode cX9_ins 104 = .ok (.iload 4, 2) := by decide +kernel
theorem dX9_ins_106 : decode cX9_ins 106 = .ok (.iaload, 1) := by decide +kernel
theorem dX9_ins_107 : decode cX9_ins 107 = .ok (.ireturn, 1) := by decide +kernel
theorem dX9_ins_108 : decode cX9_ins 108 = .ok (.aload_n 0, 1) := by decide +kernel
theorem dX9_ins_109 : decode cX9_ins 109 = .ok (.getfield 22, 3) := by decide +kernel
theorem dX9_ins_11 : decode cX9_ins 11 = .ok (.iload_n 1, 1) := by decide +kernel
theorem dX9_ins_112 : decode cX9_ins 112 = .ok (.iload 4, 2) := by decide +kernel
theorem dX9_ins_114 : decode cX9_ins 114 = .ok (.iaload, 1) := by decide +kernel
theorem dX9_ins_115 : decode cX9_ins 115 = .ok (.ireturn, 1) := by decide +kernel
theorem dX9_ins_116 : decode cX9_ins 116 = .ok (.aload_n 0, 1) := by decide +kernel
theorem dX9_ins_117 : decode cX9_ins 117 = .ok (.getfield 25, 3) := by decide +kernel
theorem dX9_ins_12 : decode cX9_ins 12 = .ok (.aload_n 0, 1) := by decide +kernel
theorem dX9_ins_120 : decode cX9_ins 120 = .ok (.iload 4, 2) := by decide +kernel
theorem dX9_ins_122 : decode cX9_ins 122 = .ok (.iaload, 1) := by decide +kernel
theorem dX9_ins_123 : decode cX9_ins 123 = .ok (.ireturn, 1) := by decide +kernel
theorem dX9_ins_124 : decode cX9_ins 124 = .ok (.aload_n 0, 1) := by decide +kernel
theorem dX9_ins_125 : decode cX9_ins 125 = .ok (.getfield 28, 3) := by decide +kernel
theorem dX9_ins_128 : decode cX9_ins 128 = .ok (.iload 4, 2) := by decide +kernel
theorem dX9_ins_13 : decode cX9_ins 13 = .ok (.getfield 7, 3) := by decide +kernel
theorem dX9_ins_130 : decode cX9_ins 130 = .ok (.iaload, 1) := by decide +kernel
theorem dX9_ins_131 : decode cX9_ins 131 = .ok (.ireturn, 1) := by decide +kernel
theorem dX9_ins_132 : decode cX9_ins 132 = .ok (.aload_n 0, 1) := by decide +kernel
theorem dX9_ins_133 : decode cX9_ins 133 = .ok (.getfield 31, 3) := by decide +kernel
theorem dX9_ins_136 : decode cX9_ins 136 = .ok (.iload 4, 2) := by decide +kernel
theorem dX9_ins_138 : decode cX9_ins 138 = .ok (.iaload, 1) := by decide +kernel
theorem dX9_ins_139 : decode cX9_ins 139 = .ok (.ireturn, 1) := by decide +kernel
theorem dX9_ins_140 : decode cX9_ins 140 = .ok (.aload_n 0, 1) := by decide +kernel
theorem dX9_ins_141 : decode cX9_ins 141 = .ok (.getfield 34, 3) := by decide +kernel
theorem dX9_ins_144 : decode cX9_ins 144 = .ok (.iload 4, 2) := by decide +kernel
theorem dX9_ins_146 : decode cX9_ins 146 = .ok (.iaload, 1) := by decide +kernel
theorem dX9_ins_147 : decode cX9_ins 147 = .ok (.ireturn, 1) := by decide +kernel
theorem dX9_ins_148 : decode cX9_ins 148 = .ok (.aload_n 0, 1) := by decide +kernel
theorem dX9_ins_149 : decode cX9_ins 149 = .ok (.getfield 37, 3) := by decide +kernel
theorem dX9_ins_152 : decode cX9_ins 152 = .ok (.iload 4, 2) := by decide +kernel
theorem dX9_ins_154 : decode cX9_ins 154 = .ok (.iaload, 1) := by decide +kernel
theorem dX9_ins_155 : decode cX9_ins 155 = .ok (.ireturn, 1) := by decide +kernel
theorem dX9_ins_156 : decode cX9_ins 156 = .ok (.iconst (-1), 1) := by decide +kernel
theorem dX9_ins_157 : decode cX9_ins 157 = .ok (.ireturn, 1) := by decide +kernel
theorem dX9_ins_16 : decode cX9_ins 16 = .ok (.iconst 0, 1) := by decide +kernel
theorem dX9_ins_17 : decode cX9_ins 17 = .ok (.iaload, 1) := by decide +kernel
theorem dX9_ins_18 : decode cX9_ins 18 = .ok (.if_icmp .ge 17, 3) := by decide +kernel
theorem dX9_ins_21 : decode cX9_ins 21 = .ok (.iload_n 2, 1) := by decide +kernel
theorem dX9_ins_22 : decode cX9_ins 22 = .ok (.ifCond .lt 13, 3) := by decide +kernel
theorem dX9_ins_25 : decode cX9_ins 25 = .ok (.iload_n 2, 1) := by decide +kernel
theorem dX9_ins_26 : decode cX9_ins 26 = .ok (.aload_n 0, 1) := by decide +kernel
theorem dX9_ins_27 : decode cX9_ins 27 = .ok (.getfield 13, 3) := by decide +kernel
theorem dX9_ins_30 : decode cX9_ins 30 = .ok (.iload_n 1, 1) := by decide +kernel
theorem dX9_ins_31 : decode cX9_ins 31 = .ok (.iaload, 1) := by decide +kernel
theorem dX9_ins_32 : decode cX9_ins 32 = .ok (.if_icmp .lt 5, 3) := by decide +kernel
theorem dX9_ins_35 : decode cX9_ins 35 = .ok (.iconst (-1), 1) := by decide +kernel
theorem dX9_ins_36 : decode cX9_ins 36 = .ok (.ireturn, 1) := by decide +kernel
theorem dX9_ins_37 : decode cX9_ins 37 = .ok (.bipush 12, 2) := by decide +kernel
theorem dX9_ins_39 : decode cX9_ins 39 = .ok (.iload_n 1, 1) := by decide +kernel
theorem dX9_ins_4 : decode cX9_ins 4 = .ok (.ifCond .eq 31, 3) := by decide +kernel
theorem dX9_ins_40 : decode cX9_ins 40 = .ok (.imul, 1) := by decide +kernel
theorem dX9_ins_41 : decode cX9_ins 41 = .ok (.iload_n 2, 1) := by decide +kernel
theorem dX9_ins_42 : decode cX9_ins 42 = .ok (.iadd, 1) := by decide +kernel
theorem dX9_ins_43 : decode cX9_ins 43 = .ok (.istore 4, 2) := by decide +kernel
theorem dX9_ins_45 : decode cX9_ins 45 = .ok (.iload_n 3, 1) := by decide +kernel
theorem dX9_ins_46 : decode cX9_ins 46 = .ok (.tableswitch 110 0 7 #[46, 54, 62, 70, 78, 86, 94, 102], 46) := by decide +kernel
theorem dX9_ins_7 : decode cX9_ins 7 = .ok (.iload_n 1, 1) := by decide +kernel
theorem dX9_ins_8 : decode cX9_ins 8 = .ok (.ifCond .lt 27, 3) := by decide +kernel
theorem dX9_ins_92 : decode cX9_ins 92 = .ok (.aload_n 0, 1) := by decide +kernel
theorem dX9_ins_93 : decode cX9_ins 93 = .ok (.getfield 16, 3) := by decide +kernel
theorem dX9_ins_96 : decode cX9_ins 96 = .ok (.iload 4, 2) := by decide +kernel
theorem dX9_ins_98 : decode cX9_ins 98 = .ok (.iaload, 1) := by decide +kernel
theorem dX9_ins_99 : decode cX9_ins 99 = .ok (.ireturn, 1) := by decide +kernel
theorem dX9_isEnd_0 : decode cX9_isEnd 0 = .ok (.iconst 0, 1) := by decide +kernel
theorem dX9_isEnd_1 : decode cX9_isEnd 1 = .ok (.istore 4, 2) := by decide +kernel
theorem dX9_isEnd_10 : decode cX9_isEnd 10 = .ok (.iaload, 1) := by decide +kernel
theorem dX9_isEnd_11 : decode cX9_isEnd 11 = .ok (.if_icmp .ge 43, 3) := by decide +kernel
theorem dX9_isEnd_14 : decode cX9_isEnd 14 = .ok (.aload_n 2, 1) := by decide +kernel
theorem dX9_isEnd_15 : decode cX9_isEnd 15 = .ok (.iload_n 3, 1) := by decide +kernel
theorem dX9_isEnd_16 : decode cX9_isEnd 16 = .ok (.iload 4, 2) := by decide +kernel
theorem dX9_isEnd_18 : decode cX9_isEnd 18 = .ok (.iadd, 1) := by decide +kernel
theorem dX9_isEnd_19 : decode cX9_isEnd 19 = .ok (.iaload, 1) := by decide +kernel
theorem dX9_isEnd_20 : decode cX9_isEnd 20 = .ok (.aload_n 0, 1) := by decide +kernel
theorem dX9_isEnd_21 : decode cX9_isEnd 21 = .ok (.getfield 13, 3) := by decide +kernel
theorem dX9_isEnd_24 : decode cX9_isEnd 24 = .ok (.iconst 3, 1) := by decide +kernel
theorem dX9_isEnd_25 : decode cX9_isEnd 25 = .ok (.iload_n 1, 1) := by decide +kernel
theorem dX9_isEnd_26 : decode cX9_isEnd 26 = .ok (.imul, 1) := by decide +kernel
theorem dX9_isEnd_27 : decode cX9_isEnd 27 = .ok (.iload 4, 2) := by decide +kernel
theorem dX9_isEnd_29 : decode cX9_isEnd 29 = .ok (.iadd, 1) := by decide +kernel
theorem dX9_isEnd_3 : decode cX9_isEnd 3 = .ok (.iload 4, 2) := by decide +kernel
theorem dX9_isEnd_30 : decode cX9_isEnd 30 = .ok (.iaload, 1) := by decide +kernel
theorem dX9_isEnd_31 : decode cX9_isEnd 31 = .ok (.if_icmp .lt 15, 3) := by decide +kernel
theorem dX9_isEnd_34 : decode cX9_isEnd 34 = .ok (.aload_n 2, 1) := by decide +kernel
theorem dX9_isEnd_35 : decode cX9_isEnd 35 = .ok (.iload_n 3, 1) := by decide +kernel
theorem dX9_isEnd_36 : decode cX9_isEnd 36 = .ok (.iload 4, 2) := by decide +kernel
theorem dX9_isEnd_38 : decode cX9_isEnd 38 = .ok (.invokestatic 267, 3) := by decide +kernel
theorem dX9_isEnd_41 : decode cX9_isEnd 41 = .ok (.iadd, 1) := by decide +kernel
theorem dX9_isEnd_42 : decode cX9_isEnd 42 = .ok (.iaload, 1) := by decide +kernel
theorem dX9_isEnd_43 : decode cX9_isEnd 43 = .ok (.ifCond .le 5, 3) := by decide +kernel
theorem dX9_isEnd_46 : decode cX9_isEnd 46 = .ok (.iconst 0, 1) := by decide +kernel
theorem dX9_isEnd_47 : decode cX9_isEnd 47 = .ok (.ireturn, 1) := by decide +kernel
theorem dX9_isEnd_48 : decode cX9_isEnd 48 = .ok (.iinc 4 1, 3) := by decide +kernel
theorem dX9_isEnd_5 : decode cX9_isEnd 5 = .ok (.aload_n 0, 1) := by decide +kernel
theorem dX9_isEnd_51 : decode cX9_isEnd 51 = .ok (.goto (-48), 3) := by decide +kernel
theorem dX9_isEnd_54 : decode cX9_isEnd 54 = .ok (.iconst 1, 1) := by decide +kernel
theorem dX9_isEnd_55 : decode cX9_isEnd 55 = .ok (.ireturn, 1) := by decide +kernel
theorem dX9_isEnd_6 : decode cX9_isEnd 6 = .ok (.getfield 7, 3) := by decide +kernel
theorem dX9_isEnd_9 : decode cX9_isEnd 9 = .ok (.iload_n 1, 1) := by decide +kernel
def wsP_c_isEnd9 : List Cond := .code yX9_isEnd cX9_isEnd 5 (some .boolean) :: (([.fieldLink RX9 7 "LitmusHallModel" "cores" "[I", .fieldLink RX9 13 "LitmusHallModel" "many" "[I", .methodLink RX9 267 yX9_rowAt, .static yX9_rowAt, .initialized yX9_rowAt.cls] ++ wsX90) ++ (wsP_c_rowAt9 ++ []))
theorem gW_c_isEnd9 : wsP_c_isEnd9.all goodWord = true := by unfold wsP_c_isEnd9; exact gw_mk (by decide +kernel) (gw_app gW_c_rowAt9 rfl)
set_option maxRecDepth 20000 in
theorem gP_c_isEnd9__c_rowAt9 : GoodIn wsP_c_isEnd9 (va_wsS RX9 267 yX9_rowAt wsP_c_rowAt9) := gw_in (pre := [.methodLink RX9 267 yX9_rowAt, .static yX9_rowAt, .initialized yX9_rowAt.cls]) (by decide +kernel) (fun _ h => List.mem_cons_of_mem _ (List.mem_append_right _ (List.mem_append_left _ h))) gW_c_rowAt9
set_option maxHeartbeats 4000000 in
set_option maxRecDepth 100000 in
theorem c_isEnd9 (l : Launch) (D : va_G) (cI cB cZ : ClassId) (h0 : Nat) (a0 : Nat) (a1 : Nat) (ra : Nat) (v2 : Value) (v3 : Value) (v4 : Value) (v5 : Value) (v6 : Value) (v7 : Value) (v8 : Value) (v9 : Value) (v10 : Value) (v11 : Value) (v12 : Value) (v13 : Value) (v14 : Value) (v15 : Value) (v16 : Value) (v17 : Value) (v18 : Value) (v19 : Value) (v20 : Value) (v21 : Value) (v22 : Value) (v23 : Value) (v24 : Value) (v25 : Value) (v26 : Value) (v27 : Value) (v28 : Value) (v29 : Value) (v30 : Value) (v31 : Value) (v32 : Value) (v33 : Value) (v34 : Value) (v35 : Value) (v36 : Value) (v37 : Value) (v38 : Value) (v39 : Value) (v40 : Value) (v41 : Value) (v42 : Value) (v43 : Value) (v44 : Value) (v45 : Value) (v46 : Value) (v47 : Value) (v48 : Value) (v49 : Value) (v50 : Value) (v51 : Value) (C : Nat → Nat) (Mn : Nat → Nat) (n : Nat) (rf : Nat → Int32) (pr : Nat) (t : Nat) (hpr : pr < 3) (hC : ∀ j, j < 3 → C j ≤ 3) (hM9 : ∀ j, j < 9 → Mn j ≤ 12) (h1 : t + 58 ≤ n) (h2 : n ≤ 522000) : gMi l yX9_isEnd wsP_c_isEnd9 ({ frames := 1, cells := 0, slots := 0, locals := 20 }) D cI cB cZ [] [.ref h0, .int (nI pr), .ref ra, .int (nI t)] [(h0, .inr (9, [.ref a0, .ref a1, v2, v3, v4, v5, v6, v7, v8, v9, v10, v11, v12, v13, v14, v15, v16, v17, v18, v19, v20, v21, v22, v23, v24, v25, v26, v27, v28, v29, v30, v31, v32, v33, v34, v35, v36, v37, v38, v39, v40, v41, v42, v43, v44, v45, v46, v47, v48, v49, v50, v51])), (a0, .inl (cI, 3, .inl (fun j => nI (C j)))), (a1, .inl (cI, 9, .inl (fun j => nI (Mn j)))), (ra, .inl (cI, n, .inl rf))] (fun r9 w9 => ∃ z : Int32, (z = 0 ∨ z = 1) ∧ r9 = z ∧ w9 = [(h0, .inr (9, [.ref a0, .ref a1, v2, v3, v4, v5, v6, v7, v8, v9, v10, v11, v12, v13, v14, v15, v16, v17, v18, v19, v20, v21, v22, v23, v24, v25, v26, v27, v28, v29, v30, v31, v32, v33, v34, v35, v36, v37, v38, v39, v40, v41, v42, v43, v44, v45, v46, v47, v48, v49, v50, v51])), (a0, .inl (cI, 3, .inl (fun j => nI (C j)))), (a1, .inl (cI, 9, .inl (fun j => nI (Mn j)))), (ra, .inl (cI, n, .inl rf))]) := by
  refine gMi.of (cc := cX9_isEnd) (maxL := 5) (ret := (some .boolean)) (by decide) rfl (Nat.le_of_ble_eq_true rfl) (fun p e s m below meth c A ls hx hb hr hlk hml hts hown hin hA hP hK hD hS hN hl => ?_)
  have hown : s.vm.findClass RX9 = some m.cls := hown
  have hl : lv_has ls 5 [(0, .ref h0), (1, .int (nI pr)), (2, .ref ra), (3, .int (nI t))] := hl
  refine lv_iconst (v := 0) hx hb dX9_isEnd_0 (by decide) ?_
  refine lv_istore (lv' := [(4, .int 0), (0, .ref h0), (1, .int (nI pr)), (2, .ref ra), (3, .int (nI t))]) hx hb dX9_isEnd_1 hl (by decide) rfl (fun ls hl => ?_)
  refine gy_loop0 (I := fun (x9 : Nat) H locs ls => (x9 ≤ 3) ∧ va_P D vwCl [(h0, .inr (9, [.ref a0, .ref a1, v2, v3, v4, v5, v6, v7, v8, v9, v10, v11, v12, v13, v14, v15, v16, v17, v18, v19, v20, v21, v22, v23, v24, v25, v26, v27, v28, v29, v30, v31, v32, v33, v34, v35, v36, v37, v38, v39, v40, v41, v42, v43, v44, v45, v46, v47, v48, v49, v50, v51])), (a0, .inl (cI, 3, .inl (fun j => nI (C j)))), (a1, .inl (cI, 9, .inl (fun j => nI (Mn j)))), (ra, .inl (cI, n, .inl rf))] H ∧ va_D A [(h0, .inr (9, [.ref a0, .ref a1, v2, v3, v4, v5, v6, v7, v8, v9, v10, v11, v12, v13, v14, v15, v16, v17, v18, v19, v20, v21, v22, v23, v24, v25, v26, v27, v28, v29, v30, v31, v32, v33, v34, v35, v36, v37, v38, v39, v40, v41, v42, v43, v44, v45, v46, v47, v48, v49, v50, v51])), (a0, .inl (cI, 3, .inl (fun j => nI (C j)))), (a1, .inl (cI, 9, .inl (fun j => nI (Mn j)))), (ra, .inl (cI, n, .inl rf))] ∧ va_S A s.heap H locs ∧ lv_has ls 5 [(4, .int (nI x9)), (0, .ref h0), (1, .int (nI pr)), (2, .ref ra), (3, .int (nI t))]) (μ := fun (x9 : Nat) => 3 - x9) (fun x9 H locs ls hI ih3 => ?_) 0 ⟨(by show 0 ≤ 3; exact Nat.le_of_ble_eq_true rfl), hP, hD, hS, lv_sub hl [0, 1, 2, 3, 4] rfl⟩
  obtain ⟨k, rfl⟩ : ∃ z9, z9 = x9 := ⟨_, rfl⟩
  obtain ⟨hi3_0, hP, hD, hS, hl⟩ := hI
  have hi3_0 : k ≤ 3 := hi3_0
  have hP : va_P D vwCl [(h0, .inr (9, [.ref a0, .ref a1, v2, v3, v4, v5, v6, v7, v8, v9, v10, v11, v12, v13, v14, v15, v16, v17, v18, v19, v20, v21, v22, v23, v24, v25, v26, v27, v28, v29, v30, v31, v32, v33, v34, v35, v36, v37, v38, v39, v40, v41, v42, v43, v44, v45, v46, v47, v48, v49, v50, v51])), (a0, .inl (cI, 3, .inl (fun j => nI (C j)))), (a1, .inl (cI, 9, .inl (fun j => nI (Mn j)))), (ra, .inl (cI, n, .inl rf))] H := hP
  have hD : va_D A [(h0, .inr (9, [.ref a0, .ref a1, v2, v3, v4, v5, v6, v7, v8, v9, v10, v11, v12, v13, v14, v15, v16, v17, v18, v19, v20, v21, v22, v23, v24, v25, v26, v27, v28, v29, v30, v31, v32, v33, v34, v35, v36, v37, v38, v39, v40, v41, v42, v43, v44, v45, v46, v47, v48, v49, v50, v51])), (a0, .inl (cI, 3, .inl (fun j => nI (C j)))), (a1, .inl (cI, 9, .inl (fun j => nI (Mn j)))), (ra, .inl (cI, n, .inl rf))] := hD
  have hS : va_S A s.heap H locs := hS
  have hl : lv_has ls 5 [(4, .int (nI k)), (0, .ref h0), (1, .int (nI pr)), (2, .ref ra), (3, .int (nI t))] := hl
  refine lv_iload hx hb dX9_isEnd_3 (lv_at hl 0 rfl) ?_
  refine lv_aload_n hx hb dX9_isEnd_5 rfl (lv_at hl 1 rfl) ?_
  refine va_get (D := D) (ci := 9) (v := .ref a0) (C := RX9) (T := TX9) (N := 52) hx hb hts (fun _ h => List.mem_cons_of_mem _ (List.mem_append_left _ (List.mem_append_right _ h))) hown hK hP 0 rfl rfl 0 (by decide) (hts (.fieldLink RX9 7 "LitmusHallModel" "cores" "[I") (by decide +kernel)) (fun _ h9 => h9) rfl dX9_isEnd_6 ?_
  refine lv_iload_n hx hb dX9_isEnd_9 rfl (lv_at hl 2 rfl) ?_
  refine gy_ild (i := pr) hx hb hK hP 1 rfl (by omega) (by omega) dX9_isEnd_10 ?_
  refine gx_top (y := nI (C pr)) rfl ?_
  have hC0 := hC pr (by omega)
  refine gy_ge (a := k) (b := (C pr)) (tgt := 54) hx hb (by omega) (by omega) dX9_isEnd_11 (by decide) (fun c_1 => ?_) (fun c_1 => ?_)
  · refine lv_iconst (v := 1) hx hb dX9_isEnd_54 (by decide) ?_
    exact gx_zret (w' := [(h0, .inr (9, [.ref a0, .ref a1, v2, v3, v4, v5, v6, v7, v8, v9, v10, v11, v12, v13, v14, v15, v16, v17, v18, v19, v20, v21, v22, v23, v24, v25, v26, v27, v28, v29, v30, v31, v32, v33, v34, v35, v36, v37, v38, v39, v40, v41, v42, v43, v44, v45, v46, v47, v48, v49, v50, v51])), (a0, .inl (cI, 3, .inl (fun j => nI (C j)))), (a1, .inl (cI, 9, .inl (fun j => nI (Mn j)))), (ra, .inl (cI, n, .inl rf))]) hx hb hr hlk hK hP hD hS (Nat.le_of_ble_eq_true rfl) (Nat.le_of_ble_eq_true rfl) dX9_isEnd_55 rfl ⟨1, (by decide), rfl, rfl⟩
  · refine lv_aload_n hx hb dX9_isEnd_14 rfl (lv_at hl 3 rfl) ?_
    refine lv_iload_n hx hb dX9_isEnd_15 rfl (lv_at hl 4 rfl) ?_
    refine lv_iload hx hb dX9_isEnd_16 (lv_at hl 0 rfl) ?_
    refine lv_iadd hx hb dX9_isEnd_18 ?_
    refine gx_top (y := nI (t + k)) (nI_add t k) ?_
    refine gy_ild (i := (t + k)) hx hb hK hP 3 rfl (by omega) (by omega) dX9_isEnd_19 ?_
    refine gx_gen (fun z_2 => ?_)
    refine lv_aload_n hx hb dX9_isEnd_20 rfl (lv_at hl 1 rfl) ?_
    refine va_get (D := D) (ci := 9) (v := .ref a1) (C := RX9) (T := TX9) (N := 52) hx hb hts (fun _ h => List.mem_cons_of_mem _ (List.mem_append_left _ (List.mem_append_right _ h))) hown hK hP 0 rfl rfl 1 (by decide) (hts (.fieldLink RX9 13 "LitmusHallModel" "many" "[I") (by decide +kernel)) (fun _ h9 => h9) rfl dX9_isEnd_21 ?_
    refine lv_iconst (v := 3) hx hb dX9_isEnd_24 (by decide) ?_
    refine lv_iload_n hx hb dX9_isEnd_25 rfl (lv_at hl 2 rfl) ?_
    refine lv_imul hx hb dX9_isEnd_26 ?_
    refine gx_top (y := nI (3 * pr)) (pk_mul 3 pr) ?_
    refine lv_iload hx hb dX9_isEnd_27 (lv_at hl 0 rfl) ?_
    refine lv_iadd hx hb dX9_isEnd_29 ?_
    refine gx_top (y := nI ((3 * pr) + k)) (nI_add (3 * pr) k) ?_
    refine gy_ild (i := ((3 * pr) + k)) hx hb hK hP 2 rfl (by omega) (by omega) dX9_isEnd_30 ?_
    refine gx_top (y := nI (Mn ((3 * pr) + k))) rfl ?_
    have hM0 := hM9 ((3 * pr) + k) (by omega)
    refine lv_icmp_lt (tgt := 46) hx hb dX9_isEnd_31 (by decide) (fun c_3 => ?_) (fun c_3 => ?_)
    · refine lv_iconst (v := 0) hx hb dX9_isEnd_46 (by decide) ?_
      exact gx_zret (w' := [(h0, .inr (9, [.ref a0, .ref a1, v2, v3, v4, v5, v6, v7, v8, v9, v10, v11, v12, v13, v14, v15, v16, v17, v18, v19, v20, v21, v22, v23, v24, v25, v26, v27, v28, v29, v30, v31, v32, v33, v34, v35, v36, v37, v38, v39, v40, v41, v42, v43, v44, v45, v46, v47, v48, v49, v50, v51])), (a0, .inl (cI, 3, .inl (fun j => nI (C j)))), (a1, .inl (cI, 9, .inl (fun j => nI (Mn j)))), (ra, .inl (cI, n, .inl rf))]) hx hb hr hlk hK hP hD hS (Nat.le_of_ble_eq_true rfl) (Nat.le_of_ble_eq_true rfl) dX9_isEnd_47 rfl ⟨0, (by decide), rfl, rfl⟩
    · refine lv_aload_n hx hb dX9_isEnd_34 rfl (lv_at hl 3 rfl) ?_
      refine lv_iload_n hx hb dX9_isEnd_35 rfl (lv_at hl 4 rfl) ?_
      refine lv_iload hx hb dX9_isEnd_36 (lv_at hl 0 rfl) ?_
      refine gx_goi (wc := []) (wr := [(h0, .inr (9, [.ref a0, .ref a1, v2, v3, v4, v5, v6, v7, v8, v9, v10, v11, v12, v13, v14, v15, v16, v17, v18, v19, v20, v21, v22, v23, v24, v25, v26, v27, v28, v29, v30, v31, v32, v33, v34, v35, v36, v37, v38, v39, v40, v41, v42, v43, v44, v45, v46, v47, v48, v49, v50, v51])), (a0, .inl (cI, 3, .inl (fun j => nI (C j)))), (a1, .inl (cI, 9, .inl (fun j => nI (Mn j)))), (ra, .inl (cI, n, .inl rf))]) (va_runS (As := [.int (nI k)]) (rest := [.int (nI t), .ref ra]) ⟨hx, hb, hml, hown, hts⟩ (c_rowAt9 l D cI cB cZ k _) (va_cwS 1 hts gP_c_isEnd9__c_rowAt9 rfl rfl rfl (by decide +kernel) ⟨Nat.le_of_ble_eq_true rfl, Nat.le_of_ble_eq_true rfl⟩) (gx_preS hK gN.nil hP hD [] rfl rfl) rfl rfl hl.1 rfl (lv_room (Nat.le_of_ble_eq_true rfl)) dX9_isEnd_38 ⟨Nat.le_of_ble_eq_true rfl, Nat.le_of_ble_eq_true rfl⟩) hP hD hS hA [] [0, 1, 2, 3] rfl rfl rfl (by decide) (fun r1 w1 H locs hp hP hD hS => ?_)
      obtain ⟨h9, rfl⟩ := hp
      have h9 := h9.symm
      subst h9
      refine lv_iadd hx hb dX9_isEnd_41 ?_
      refine gx_top (y := nI (t + (16 + (13 * k)))) (nI_add t (16 + (13 * k))) ?_
      refine gy_ild (i := (t + (16 + (13 * k)))) hx hb hK hP 3 rfl (by omega) (by omega) dX9_isEnd_42 ?_
      refine gx_gen (fun z_4 => ?_)
      refine lv_if_le (tgt := 48) hx hb dX9_isEnd_43 (by decide) (fun c_5 => ?_) (fun c_5 => ?_)
      · refine lv_iinc (v := nI (k + 1)) (lv' := [(4, .int (nI (k + 1))), (0, .ref h0), (1, .int (nI pr)), (2, .ref ra), (3, .int (nI t))]) hx hb dX9_isEnd_48 hl (k := 0) rfl (nI_add k 1) (by decide) rfl (fun ls hl => ?_)
        refine lv_goto (tgt := 3) hx hb dX9_isEnd_51 (by decide) ?_
        have hP : va_P D vwCl [(h0, .inr (9, [.ref a0, .ref a1, v2, v3, v4, v5, v6, v7, v8, v9, v10, v11, v12, v13, v14, v15, v16, v17, v18, v19, v20, v21, v22, v23, v24, v25, v26, v27, v28, v29, v30, v31, v32, v33, v34, v35, v36, v37, v38, v39, v40, v41, v42, v43, v44, v45, v46, v47, v48, v49, v50, v51])), (a0, .inl (cI, 3, .inl (fun j => nI (C j)))), (a1, .inl (cI, 9, .inl (fun j => nI (Mn j)))), (ra, .inl (cI, n, .inl rf))] H := hP
        have hD : va_D A [(h0, .inr (9, [.ref a0, .ref a1, v2, v3, v4, v5, v6, v7, v8, v9, v10, v11, v12, v13, v14, v15, v16, v17, v18, v19, v20, v21, v22, v23, v24, v25, v26, v27, v28, v29, v30, v31, v32, v33, v34, v35, v36, v37, v38, v39, v40, v41, v42, v43, v44, v45, v46, v47, v48, v49, v50, v51])), (a0, .inl (cI, 3, .inl (fun j => nI (C j)))), (a1, .inl (cI, 9, .inl (fun j => nI (Mn j)))), (ra, .inl (cI, n, .inl rf))] := hD
        exact ih3 (k + 1) H locs ls ⟨(by show (k + 1) ≤ 3; omega), hP, hD, hS, lv_sub hl [0, 1, 2, 3, 4] rfl⟩ (by show 3 - (k + 1) < 3 - k; omega)
      · refine lv_iconst (v := 0) hx hb dX9_isEnd_46 (by decide) ?_
        have hP : va_P D vwCl [(h0, .inr (9, [.ref a0, .ref a1, v2, v3, v4, v5, v6, v7, v8, v9, v10, v11, v12, v13, v14, v15, v16, v17, v18, v19, v20, v21, v22, v23, v24, v25, v26, v27, v28, v29, v30, v31, v32, v33, v34, v35, v36, v37, v38, v39, v40, v41, v42, v43, v44, v45, v46, v47, v48, v49, v50, v51])), (a0, .inl (cI, 3, .inl (fun j => nI (C j)))), (a1, .inl (cI, 9, .inl (fun j => nI (Mn j)))), (ra, .inl (cI, n, .inl rf))] H := hP
        have hD : va_D A [(h0, .inr (9, [.ref a0, .ref a1, v2, v3, v4, v5, v6, v7, v8, v9, v10, v11, v12, v13, v14, v15, v16, v17, v18, v19, v20, v21, v22, v23, v24, v25, v26, v27, v28, v29, v30, v31, v32, v33, v34, v35, v36, v37, v38, v39, v40, v41, v42, v43, v44, v45, v46, v47, v48, v49, v50, v51])), (a0, .inl (cI, 3, .inl (fun j => nI (C j)))), (a1, .inl (cI, 9, .inl (fun j => nI (Mn j)))), (ra, .inl (cI, n, .inl rf))] := hD
        exact gx_zret (w' := [(h0, .inr (9, [.ref a0, .ref a1, v2, v3, v4, v5, v6, v7, v8, v9, v10, v11, v12, v13, v14, v15, v16, v17, v18, v19, v20, v21, v22, v23, v24, v25, v26, v27, v28, v29, v30, v31, v32, v33, v34, v35, v36, v37, v38, v39, v40, v41, v42, v43, v44, v45, v46, v47, v48, v49, v50, v51])), (a0, .inl (cI, 3, .inl (fun j => nI (C j)))), (a1, .inl (cI, 9, .inl (fun j => nI (Mn j)))), (ra, .inl (cI, n, .inl rf))]) hx hb hr hlk hK hP hD hS (Nat.le_of_ble_eq_true rfl) (Nat.le_of_ble_eq_true rfl) dX9_isEnd_47 rfl ⟨0, (by decide), rfl, rfl⟩