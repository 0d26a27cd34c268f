theorem dX9_stepOf_0 : decode cX9_stepOf 0 = .ok (.iconst 0, 1) := by decide +kernel
theorem dX9_stepOf_1 : decode cX9_stepOf 1 = .ok (.istore 4, 2) := by decide +kernel
theorem dX9_stepOf_10 : decode cX9_stepOf 10 = .ok (.sipush 3000, 3) := by decide +kernel
theorem dX9_stepOf_100 : decode cX9_stepOf 100 = .ok (.iload 5, 2) := by decide +kernel
theorem dX9_stepOf_102 : decode cX9_stepOf 102 = .ok (.iadd, 1) := by decide +kernel
theorem dX9_stepOf_103 : decode cX9_stepOf 103 = .ok (.iaload, 1) := by decide +kernel
theorem dX9_stepOf_104 : decode cX9_stepOf 104 = .ok (.ireturn, 1) := by decide +kernel
theorem dX9_stepOf_13 : decode cX9_stepOf 13 = .ok (.iload_n 1, 1) := by decide +kernel
theorem dX9_stepOf_14 : decode cX9_stepOf 14 = .ok (.imul, 1) := by decide +kernel
theorem dX9_stepOf_15 : decode cX9_stepOf 15 = .ok (.iload 5, 2) := by decide +kernel
theorem dX9_stepOf_17 : decode cX9_stepOf 17 = .ok (.iadd, 1) := by decide +kernel
theorem dX9_stepOf_18 : decode cX9_stepOf 18 = .ok (.iaload, 1) := by decide +kernel
theorem dX9_stepOf_19 : decode cX9_stepOf 19 = .ok (.ifCond .lt 24, 3) := by decide +kernel
theorem dX9_stepOf_22 : decode cX9_stepOf 22 = .ok (.iinc 4 1, 3) := by decide +kernel
theorem dX9_stepOf_25 : decode cX9_stepOf 25 = .ok (.aload_n 0, 1) := by decide +kernel
theorem dX9_stepOf_26 : decode cX9_stepOf 26 = .ok (.getfield 47, 3) := by decide +kernel
theorem dX9_stepOf_29 : decode cX9_stepOf 29 = .ok (.sipush 3000, 3) := by decide +kernel
theorem dX9_stepOf_3 : decode cX9_stepOf 3 = .ok (.iload_n 2, 1) := by decide +kernel
theorem dX9_stepOf_32 : decode cX9_stepOf 32 = .ok (.iload_n 1, 1) := by decide +kernel
theorem dX9_stepOf_33 : decode cX9_stepOf 33 = .ok (.imul, 1) := by decide +kernel
theorem dX9_stepOf_34 : decode cX9_stepOf 34 = .ok (.iload 5, 2) := by decide +kernel
theorem dX9_stepOf_36 : decode cX9_stepOf 36 = .ok (.iadd, 1) := by decide +kernel
theorem dX9_stepOf_37 : decode cX9_stepOf 37 = .ok (.iaload, 1) := by decide +kernel
theorem dX9_stepOf_38 : decode cX9_stepOf 38 = .ok (.istore 5, 2) := by decide +kernel
theorem dX9_stepOf_4 : decode cX9_stepOf 4 = .ok (.istore 5, 2) := by decide +kernel
theorem dX9_stepOf_40 : decode cX9_stepOf 40 = .ok (.goto (-34), 3) := by decide +kernel
theorem dX9_stepOf_43 : decode cX9_stepOf 43 = .ok (.iload_n 3, 1) := by decide +kernel
theorem dX9_stepOf_44 : decode cX9_stepOf 44 = .ok (.ifCond .lt 9, 3) := by decide +kernel
theorem dX9_stepOf_47 : decode cX9_stepOf 47 = .ok (.iload_n 3, 1) := by decide +kernel
theorem dX9_stepOf_48 : decode cX9_stepOf 48 = .ok (.iload 4, 2) := by decide +kernel
theorem dX9_stepOf_50 : decode cX9_stepOf 50 = .ok (.if_icmp .lt 5, 3) := by decide +kernel
theorem dX9_stepOf_53 : decode cX9_stepOf 53 = .ok (.iconst (-1), 1) := by decide +kernel
theorem dX9_stepOf_54 : decode cX9_stepOf 54 = .ok (.ireturn, 1) := by decide +kernel
theorem dX9_stepOf_55 : decode cX9_stepOf 55 = .ok (.iload_n 2, 1) := by decide +kernel
theorem dX9_stepOf_56 : decode cX9_stepOf 56 = .ok (.istore 5, 2) := by decide +kernel
theorem dX9_stepOf_58 : decode cX9_stepOf 58 = .ok (.iload 4, 2) := by decide +kernel
theorem dX9_stepOf_6 : decode cX9_stepOf 6 = .ok (.aload_n 0, 1) := by decide +kernel
theorem dX9_stepOf_60 : decode cX9_stepOf 60 = .ok (.iconst 1, 1) := by decide +kernel
theorem dX9_stepOf_61 : decode cX9_stepOf 61 = .ok (.isub, 1) := by decide +kernel
theorem dX9_stepOf_62 : decode cX9_stepOf 62 = .ok (.istore 6, 2) := by decide +kernel
theorem dX9_stepOf_64 : decode cX9_stepOf 64 = .ok (.iload 6, 2) := by decide +kernel
theorem dX9_stepOf_66 : decode cX9_stepOf 66 = .ok (.iload_n 3, 1) := by decide +kernel
theorem dX9_stepOf_67 : decode cX9_stepOf 67 = .ok (.if_icmp .le 24, 3) := by decide +kernel
theorem dX9_stepOf_7 : decode cX9_stepOf 7 = .ok (.getfield 47, 3) := by decide +kernel
theorem dX9_stepOf_70 : decode cX9_stepOf 70 = .ok (.aload_n 0, 1) := by decide +kernel
theorem dX9_stepOf_71 : decode cX9_stepOf 71 = .ok (.getfield 47, 3) := by decide +kernel
theorem dX9_stepOf_74 : decode cX9_stepOf 74 = .ok (.sipush 3000, 3) := by decide +kernel
theorem dX9_stepOf_77 : decode cX9_stepOf 77 = .ok (.iload_n 1, 1) := by decide +kernel
theorem dX9_stepOf_78 : decode cX9_stepOf 78 = .ok (.imul, 1) := by decide +kernel
theorem dX9_stepOf_79 : decode cX9_stepOf 79 = .ok (.iload 5, 2) := by decide +kernel
theorem dX9_stepOf_81 : decode cX9_stepOf 81 = .ok (.iadd, 1) := by decide +kernel
theorem dX9_stepOf_82 : decode cX9_stepOf 82 = .ok (.iaload, 1) := by decide +kernel
theorem dX9_stepOf_83 : decode cX9_stepOf 83 = .ok (.istore 5, 2) := by decide +kernel
theorem dX9_stepOf_85 : decode cX9_stepOf 85 = .ok (.iinc 6 (-1), 3) := by decide +kernel
theorem dX9_stepOf_88 : decode cX9_stepOf 88 = .ok (.goto (-24), 3) := by decide +kernel
theorem dX9_stepOf_91 : decode cX9_stepOf 91 = .ok (.aload_n 0, 1) := by decide +kernel
theorem dX9_stepOf_92 : decode cX9_stepOf 92 = .ok (.getfield 50, 3) := by decide +kernel
theorem dX9_stepOf_95 : decode cX9_stepOf 95 = .ok (.sipush 3000, 3) := by decide +kernel
theorem dX9_stepOf_98 : decode cX9_stepOf 98 = .ok (.iload_n 1, 1) := by decide +kernel
theorem dX9_stepOf_99 : decode cX9_stepOf 99 = .ok (.imul, 1) := by decide +kernel
/-- h steps back can be made from k -/
def gHi (fr : Nat → Int32) (b : Nat) : Nat → Nat → Prop
  | _, 0 => True
  | k, h + 1 => ∃ q, q < k ∧ fr (b + k) = nI q ∧ gHi fr b q h
def gFr (fr : Nat → Int32) (b sz : Nat) (Dp : Nat → Nat) : Prop := ∀ m, m < sz → fr (b + m) = (-1) ∨ ∃ q, q < m ∧ fr (b + m) = nI q ∧ Dp q + 1 ≤ Dp m
def wsP_c_stepOf9 : List Cond := .code yX9_stepOf cX9_stepOf 7 (some .int) :: (([.fieldLink RX9 47 "LitmusHallModel" "from" "[I", .fieldLink RX9 50 "LitmusHallModel" "by" "[I"] ++ wsX90) ++ [])
theorem gW_c_stepOf9 : wsP_c_stepOf9.all goodWord = true := by unfold wsP_c_stepOf9; exact gw_mk (by decide +kernel) rfl
set_option maxHeartbeats 4000000 in
set_option maxRecDepth 100000 in
theorem c_stepOf9 (l : Launch) (D : va_G) (cI cB cZ : ClassId) (h0 : Nat) (a13 : Nat) (a14 : Nat) (v0 : Value) (v1 : Value) (v2 : Value) (v3 : Value) (v4 : Value) (v5 : Value) (v6 : Value) (v7 : Value) (v8 : Value) (v9 : Value) (v10 : Value) (v11 : Value) (v12 : Value) (v15 : Value) (v16 : Value) (v17 : Value) (v18 : Value) (v19 : Value) (v20 : Value) (v21 : Value) (v22 : Value) (v23 : Value) (v24 : Value) (v25 : Value) (v26 : Value) (v27 : Value) (v28 : Value) (v29 : Value) (v30 : Value) (v31 : Value) (v32 : Value) (v33 : Value) (v34 : Value) (v35 : Value) (v36 : Value) (v37 : Value) (v38 : Value) (v39 : Value) (v40 : Value) (v41 : Value) (v42 : Value) (v43 : Value) (v44 : Value) (v45 : Value) (v46 : Value) (v47 : Value) (v48 : Value) (v49 : Value) (v50 : Value) (v51 : Value) (fr : Nat → Int32) (bf : Nat → Int32) (s9 : Nat) (n : Nat) (x : Int32) (sz : Nat) (Dp : Nat → Nat) (hs : s9 < 3) (hsz : sz ≤ 3000) (hn : n < sz) (hF : gFr fr (3000 * s9) sz Dp) : gMi l yX9_stepOf wsP_c_stepOf9 ({ frames := 0, cells := 0, slots := 0, locals := 0 }) D cI cB cZ [] [.ref h0, .int (nI s9), .int (nI n), .int x] [(h0, .inr (9, [v0, v1, v2, v3, v4, v5, v6, v7, v8, v9, v10, v11, v12, .ref a13, .ref a14, v15, v16, v17, v18, v19, v20, v21, v22, v23, v24, v25, v26, v27, v28, v29, v30, v31, v32, v33, v34, v35, v36, v37, v38, v39, v40, v41, v42, v43, v44, v45, v46, v47, v48, v49, v50, v51])), (a13, .inl (cI, 9000, .inl fr)), (a14, .inl (cI, 9000, .inl bf))] (fun r9 w9 => ∃ z : Int32, (z = (-1) ∨ ∃ j, j < Dp n ∧ x = nI j) ∧ r9 = z ∧ w9 = [(h0, .inr (9, [v0, v1, v2, v3, v4, v5, v6, v7, v8, v9, v10, v11, v12, .ref a13, .ref a14, v15, v16, v17, v18, v19, v20, v21, v22, v23, v24, v25, v26, v27, v28, v29, v30, v31, v32, v33, v34, v35, v36, v37, v38, v39, v40, v41, v42, v43, v44, v45, v46, v47, v48, v49, v50, v51])), (a13, .inl (cI, 9000, .inl fr)), (a14, .inl (cI, 9000, .inl bf))]) := by
  refine gMi.of (cc := cX9_stepOf) (maxL := 7) (ret := (some .int)) (by decide) rfl (Nat.le_of_ble_eq_true rfl) (fun p e s m below meth c A ls hx hb hr hlk hml hts hown hin hA hP hK hD hS hN hl => ?_)
  have hown : s.vm.findClass RX9 = some m.cls := hown
  have hl : lv_has ls 7 [(0, .ref h0), (1, .int (nI s9)), (2, .int (nI n)), (3, .int x)] := hl
  refine lv_iconst (v := 0) hx hb dX9_stepOf_0 (by decide) ?_
  refine lv_istore (lv' := [(4, .int 0), (0, .ref h0), (1, .int (nI s9)), (2, .int (nI n)), (3, .int x)]) hx hb dX9_stepOf_1 hl (by decide) rfl (fun ls hl => ?_)
  refine lv_iload_n hx hb dX9_stepOf_3 rfl (lv_at hl 3 rfl) ?_
  refine lv_istore (lv' := [(5, .int (nI n)), (4, .int 0), (0, .ref h0), (1, .int (nI s9)), (2, .int (nI n)), (3, .int x)]) hx hb dX9_stepOf_4 hl (by decide) rfl (fun ls hl => ?_)
  refine gy_loop0 (I := fun (x9 : Nat × Nat) H locs ls => (x9.2 ≤ n) ∧ (x9.1 + x9.2 ≤ n) ∧ (x9.1 + Dp x9.2 ≤ Dp n) ∧ (∀ h, gHi fr (3000 * s9) x9.2 h → gHi fr (3000 * s9) n (x9.1 + h)) ∧ va_P D vwCl [(h0, .inr (9, [v0, v1, v2, v3, v4, v5, v6, v7, v8, v9, v10, v11, v12, .ref a13, .ref a14, v15, v16, v17, v18, v19, v20, v21, v22, v23, v24, v25, v26, v27, v28, v29, v30, v31, v32, v33, v34, v35, v36, v37, v38, v39, v40, v41, v42, v43, v44, v45, v46, v47, v48, v49, v50, v51])), (a13, .inl (cI, 9000, .inl fr)), (a14, .inl (cI, 9000, .inl bf))] H ∧ va_D A [(h0, .inr (9, [v0, v1, v2, v3, v4, v5, v6, v7, v8, v9, v10, v11, v12, .ref a13, .ref a14, v15, v16, v17, v18, v19, v20, v21, v22, v23, v24, v25, v26, v27, v28, v29, v30, v31, v32, v33, v34, v35, v36, v37, v38, v39, v40, v41, v42, v43, v44, v45, v46, v47, v48, v49, v50, v51])), (a13, .inl (cI, 9000, .inl fr)), (a14, .inl (cI, 9000, .inl bf))] ∧ va_S A s.heap H locs ∧ lv_has ls 7 [(5, .int (nI x9.2)), (4, .int (nI x9.1)), (0, .ref h0), (1, .int (nI s9)), (2, .int (nI n)), (3, .int x)]) (μ := fun (x9 : Nat × Nat) => x9.2) (fun x9 H locs ls hI ih6 => ?_) (0, n) ⟨(by show n ≤ n; omega), (by show 0 + n ≤ n; omega), (by show 0 + Dp n ≤ Dp n; omega), (fun h q => by rw [Nat.zero_add]; exact q), hP, hD, hS, lv_sub hl [0, 1, 2, 3, 4, 5] rfl⟩
  obtain ⟨len, k⟩ := x9
  obtain ⟨hi6_0, hi6_1, hi6_2, hi6_3, hP, hD, hS, hl⟩ := hI
  have hi6_0 : k ≤ n := hi6_0
  have hi6_1 : len + k ≤ n := hi6_1
  have hi6_2 : len + Dp k ≤ Dp n := hi6_2
  have hi6_3 : ∀ h, gHi fr (3000 * s9) k h → gHi fr (3000 * s9) n (len + h) := hi6_3
  have hP : va_P D vwCl [(h0, .inr (9, [v0, v1, v2, v3, v4, v5, v6, v7, v8, v9, v10, v11, v12, .ref a13, .ref a14, v15, v16, v17, v18, v19, v20, v21, v22, v23, v24, v25, v26, v27, v28, v29, v30, v31, v32, v33, v34, v35, v36, v37, v38, v39, v40, v41, v42, v43, v44, v45, v46, v47, v48, v49, v50, v51])), (a13, .inl (cI, 9000, .inl fr)), (a14, .inl (cI, 9000, .inl bf))] H := hP
  have hD : va_D A [(h0, .inr (9, [v0, v1, v2, v3, v4, v5, v6, v7, v8, v9, v10, v11, v12, .ref a13, .ref a14, v15, v16, v17, v18, v19, v20, v21, v22, v23, v24, v25, v26, v27, v28, v29, v30, v31, v32, v33, v34, v35, v36, v37, v38, v39, v40, v41, v42, v43, v44, v45, v46, v47, v48, v49, v50, v51])), (a13, .inl (cI, 9000, .inl fr)), (a14, .inl (cI, 9000, .inl bf))] := hD
  have hS : va_S A s.heap H locs := hS
  have hl : lv_has ls 7 [(5, .int (nI k)), (4, .int (nI len)), (0, .ref h0), (1, .int (nI s9)), (2, .int (nI n)), (3, .int x)] := hl
  refine lv_aload_n hx hb dX9_stepOf_6 rfl (lv_at hl 2 rfl) ?_
  refine va_get (D := D) (ci := 9) (v := .ref a13) (C := RX9) (T := TX9) (N := 52) hx hb hts (fun _ h => List.mem_cons_of_mem _ (List.mem_append_left _ (List.mem_append_right _ h))) hown hK hP 0 rfl rfl 13 (by decide) (hts (.fieldLink RX9 47 "LitmusHallModel" "from" "[I") (by decide +kernel)) (fun _ h9 => h9) rfl dX9_stepOf_7 ?_
  refine lv_sipush (v := 3000) hx hb dX9_stepOf_10 (by decide) ?_
  refine lv_iload_n hx hb dX9_stepOf_13 rfl (lv_at hl 3 rfl) ?_
  refine lv_imul hx hb dX9_stepOf_14 ?_
  refine gx_top (y := nI (3000 * s9)) (pk_mul 3000 s9) ?_
  refine lv_iload hx hb dX9_stepOf_15 (lv_at hl 0 rfl) ?_
  refine lv_iadd hx hb dX9_stepOf_17 ?_
  refine gx_top (y := nI ((3000 * s9) + k)) (nI_add (3000 * s9) k) ?_
  refine gy_ild (i := ((3000 * s9) + k)) hx hb hK hP 1 rfl (by omega) (by omega) dX9_stepOf_18 ?_
  refine lv_if_lt (tgt := 43) hx hb dX9_stepOf_19 (by decide) (fun c_1 => ?_) (fun c_1 => ?_)
  · refine lv_iload_n hx hb dX9_stepOf_43 rfl (lv_at hl 5 rfl) ?_
    refine lv_if_lt (tgt := 53) hx hb dX9_stepOf_44 (by decide) (fun c_2 => ?_) (fun c_2 => ?_)
    · refine lv_iconst (v := (-1)) hx hb dX9_stepOf_53 (by decide) ?_
      exact gx_iret (w' := [(h0, .inr (9, [v0, v1, v2, v3, v4, v5, v6, v7, v8, v9, v10, v11, v12, .ref a13, .ref a14, v15, v16, v17, v18, v19, v20, v21, v22, v23, v24, v25, v26, v27, v28, v29, v30, v31, v32, v33, v34, v35, v36, v37, v38, v39, v40, v41, v42, v43, v44, v45, v46, v47, v48, v49, v50, v51])), (a13, .inl (cI, 9000, .inl fr)), (a14, .inl (cI, 9000, .inl bf))]) hx hb hr hlk hK hP hD hS (Nat.le_of_ble_eq_true rfl) (Nat.le_of_ble_eq_true rfl) dX9_stepOf_54 ⟨(-1), (Or.inl rfl), rfl, rfl⟩
    · refine lv_iload_n hx hb dX9_stepOf_47 rfl (lv_at hl 5 rfl) ?_
      refine lv_iload hx hb dX9_stepOf_48 (lv_at hl 1 rfl) ?_
      refine lv_icmp_lt (tgt := 55) hx hb dX9_stepOf_50 (by decide) (fun c_3 => ?_) (fun c_3 => ?_)
      · obtain ⟨ji, hji, rfl⟩ := gy_inc (c := len) (by omega) c_2 c_3
        have hl : lv_has ls 7 [(5, .int (nI k)), (4, .int (nI len)), (0, .ref h0), (1, .int (nI s9)), (2, .int (nI n)), (3, .int (nI ji))] := hl
        refine lv_iload_n hx hb dX9_stepOf_55 rfl (lv_at hl 4 rfl) ?_
        refine lv_istore (lv' := [(5, .int (nI n)), (4, .int (nI len)), (0, .ref h0), (1, .int (nI s9)), (2, .int (nI n)), (3, .int (nI ji))]) hx hb dX9_stepOf_56 hl (by decide) rfl (fun ls hl => ?_)
        refine lv_iload hx hb dX9_stepOf_58 (lv_at hl 1 rfl) ?_
        refine lv_iconst (v := 1) hx hb dX9_stepOf_60 (by decide) ?_
        refine lv_isub hx hb dX9_stepOf_61 ?_
        refine gx_top (y := nI (len - 1)) (pk_sub (a := len) (b := 1) (by omega)) ?_
        refine lv_istore (lv' := [(6, .int (nI (len - 1))), (5, .int (nI n)), (4, .int (nI len)), (0, .ref h0), (1, .int (nI s9)), (2, .int (nI n)), (3, .int (nI ji))]) hx hb dX9_stepOf_62 hl (by decide) rfl (fun ls hl => ?_)
        refine gy_loop0 (I := fun (x9 : Nat × Nat) H locs ls => (x9.1 ≤ n) ∧ (ji ≤ x9.2) ∧ (gHi fr (3000 * s9) x9.1 (x9.2 + 1)) ∧ (x9.2 ≤ 3000) ∧ va_P D vwCl [(h0, .inr (9, [v0, v1, v2, v3, v4, v5, v6, v7, v8, v9, v10, v11, v12, .ref a13, .ref a14, v15, v16, v17, v18, v19, v20, v21, v22, v23, v24, v25, v26, v27, v28, v29, v30, v31, v32, v33, v34, v35, v36, v37, v38, v39, v40, v41, v42, v43, v44, v45, v46, v47, v48, v49, v50, v51])), (a13, .inl (cI, 9000, .inl fr)), (a14, .inl (cI, 9000, .inl bf))] H ∧ va_D A [(h0, .inr (9, [v0, v1, v2, v3, v4, v5, v6, v7, v8, v9, v10, v11, v12, .ref a13, .ref a14, v15, v16, v17, v18, v19, v20, v21, v22, v23, v24, v25, v26, v27, v28, v29, v30, v31, v32, v33, v34, v35, v36, v37, v38, v39, v40, v41, v42, v43, v44, v45, v46, v47, v48, v49, v50, v51])), (a13, .inl (cI, 9000, .inl fr)), (a14, .inl (cI, 9000, .inl bf))] ∧ va_S A s.heap H locs ∧ lv_has ls 7 [(6, .int (nI x9.2)), (5, .int (nI x9.1)), (4, .int (nI len)), (0, .ref h0), (1, .int (nI s9)), (2, .int (nI n)), (3, .int (nI ji))]) (μ := fun (x9 : Nat × Nat) => x9.2) (fun x9 H locs ls hI ih64 => ?_) (n, (len - 1)) ⟨(by show n ≤ n; omega), (by show ji ≤ (len - 1); omega), (by have := hi6_3 0 trivial; rw [show len - 1 + 1 = len + 0 by omega]; exact this), (by show (len - 1) ≤ 3000; omega), hP, hD, hS, lv_sub hl [0, 1, 2, 3, 4, 5, 6] rfl⟩
        obtain ⟨k2, j⟩ := x9
        obtain ⟨hi64_0, hi64_1, hi64_2, hi64_3, hP, hD, hS, hl⟩ := hI
        have hi64_0 : k2 ≤ n := hi64_0
        have hi64_1 : ji ≤ j := hi64_1
        have hi64_2 : gHi fr (3000 * s9) k2 (j + 1) := hi64_2
        have hi64_3 : j ≤ 3000 := hi64_3
        have hP : va_P D vwCl [(h0, .inr (9, [v0, v1, v2, v3, v4, v5, v6, v7, v8, v9, v10, v11, v12, .ref a13, .ref a14, v15, v16, v17, v18, v19, v20, v21, v22, v23, v24, v25, v26, v27, v28, v29, v30, v31, v32, v33, v34, v35, v36, v37, v38, v39, v40, v41, v42, v43, v44, v45, v46, v47, v48, v49, v50, v51])), (a13, .inl (cI, 9000, .inl fr)), (a14, .inl (cI, 9000, .inl bf))] H := hP
        have hD : va_D A [(h0, .inr (9, [v0, v1, v2, v3, v4, v5, v6, v7, v8, v9, v10, v11, v12, .ref a13, .ref a14, v15, v16, v17, v18, v19, v20, v21, v22, v23, v24, v25, v26, v27, v28, v29, v30, v31, v32, v33, v34, v35, v36, v37, v38, v39, v40, v41, v42, v43, v44, v45, v46, v47, v48, v49, v50, v51])), (a13, .inl (cI, 9000, .inl fr)), (a14, .inl (cI, 9000, .inl bf))] := hD
        have hS : va_S A s.heap H locs := hS
        have hl : lv_has ls 7 [(6, .int (nI j)), (5, .int (nI k2)), (4, .int (nI len)), (0, .ref h0), (1, .int (nI s9)), (2, .int (nI n)), (3, .int (nI ji))] := hl
        refine lv_iload hx hb dX9_stepOf_64 (lv_at hl 0 rfl) ?_
        refine lv_iload_n hx hb dX9_stepOf_66 rfl (lv_at hl 6 rfl) ?_
        refine gy_le (a := j) (b := ji) (tgt := 91) hx hb (by omega) (by omega) dX9_stepOf_67 (by decide) (fun c_4 => ?_) (fun c_4 => ?_)
        · refine lv_aload_n hx hb dX9_stepOf_91 rfl (lv_at hl 3 rfl) ?_
          refine va_get (D := D) (ci := 9) (v := .ref a14) (C := RX9) (T := TX9) (N := 52) hx hb hts (fun _ h => List.mem_cons_of_mem _ (List.mem_append_left _ (List.mem_append_right _ h))) hown hK hP 0 rfl rfl 14 (by decide) (hts (.fieldLink RX9 50 "LitmusHallModel" "by" "[I") (by decide +kernel)) (fun _ h9 => h9) rfl dX9_stepOf_92 ?_
          refine lv_sipush (v := 3000) hx hb dX9_stepOf_95 (by decide) ?_
          refine lv_iload_n hx hb dX9_stepOf_98 rfl (lv_at hl 4 rfl) ?_
          refine lv_imul hx hb dX9_stepOf_99 ?_
          refine gx_top (y := nI (3000 * s9)) (pk_mul 3000 s9) ?_
          refine lv_iload hx hb dX9_stepOf_100 (lv_at hl 1 rfl) ?_
          refine lv_iadd hx hb dX9_stepOf_102 ?_
          refine gx_top (y := nI ((3000 * s9) + k2)) (nI_add (3000 * s9) k2) ?_
          refine gy_ild (i := ((3000 * s9) + k2)) hx hb hK hP 2 rfl (by omega) (by omega) dX9_stepOf_103 ?_
          refine gx_gen (fun z_5 => ?_)
          exact gx_iret (w' := [(h0, .inr (9, [v0, v1, v2, v3, v4, v5, v6, v7, v8, v9, v10, v11, v12, .ref a13, .ref a14, v15, v16, v17, v18, v19, v20, v21, v22, v23, v24, v25, v26, v27, v28, v29, v30, v31, v32, v33, v34, v35, v36, v37, v38, v39, v40, v41, v42, v43, v44, v45, v46, v47, v48, v49, v50, v51])), (a13, .inl (cI, 9000, .inl fr)), (a14, .inl (cI, 9000, .inl bf))]) hx hb hr hlk hK hP hD hS (Nat.le_of_ble_eq_true rfl) (Nat.le_of_ble_eq_true rfl) dX9_stepOf_104 ⟨z_5, (Or.inr ⟨ji, by omega, rfl⟩), rfl, rfl⟩
        · refine lv_aload_n hx hb dX9_stepOf_70 rfl (lv_at hl 3 rfl) ?_
          refine va_get (D := D) (ci := 9) (v := .ref a13) (C := RX9) (T := TX9) (N := 52) hx hb hts (fun _ h => List.mem_cons_of_mem _ (List.mem_append_left _ (List.mem_append_right _ h))) hown hK hP 0 rfl rfl 13 (by decide) (hts (.fieldLink RX9 47 "LitmusHallModel" "from" "[I") (by decide +kernel)) (fun _ h9 => h9) rfl dX9_stepOf_71 ?_
          refine lv_sipush (v := 3000) hx hb dX9_stepOf_74 (by decide) ?_
          refine lv_iload_n hx hb dX9_stepOf_77 rfl (lv_at hl 4 rfl) ?_
          refine lv_imul hx hb dX9_stepOf_78 ?_
          refine gx_top (y := nI (3000 * s9)) (pk_mul 3000 s9) ?_
          refine lv_iload hx hb dX9_stepOf_79 (lv_at hl 1 rfl) ?_
          refine lv_iadd hx hb dX9_stepOf_81 ?_
          refine gx_top (y := nI ((3000 * s9) + k2)) (nI_add (3000 * s9) k2) ?_
          obtain ⟨q, hq1, hq2, hq3⟩ := hi64_2
          refine gy_ild (i := ((3000 * s9) + k2)) hx hb hK hP 1 rfl (by omega) (by omega) dX9_stepOf_82 ?_
          refine gx_top (y := nI q) hq2 ?_
          refine lv_istore (lv' := [(5, .int (nI q)), (6, .int (nI j)), (4, .int (nI len)), (0, .ref h0), (1, .int (nI s9)), (2, .int (nI n)), (3, .int (nI ji))]) hx hb dX9_stepOf_83 hl (by decide) rfl (fun ls hl => ?_)
          refine lv_iinc (v := nI (j - 1)) (lv' := [(6, .int (nI (j - 1))), (5, .int (nI q)), (4, .int (nI len)), (0, .ref h0), (1, .int (nI s9)), (2, .int (nI n)), (3, .int (nI ji))]) hx hb dX9_stepOf_85 hl (k := 1) rfl (gy_decN (by omega)) (by decide) rfl (fun ls hl => ?_)
          refine lv_goto (tgt := 64) hx hb dX9_stepOf_88 (by decide) ?_
          exact ih64 (q, (j - 1)) H locs ls ⟨(by show q ≤ n; omega), (by show ji ≤ (j - 1); omega), (by rw [show j - 1 + 1 = j by omega]; exact hq3), (by show (j - 1) ≤ 3000; omega), hP, hD, hS, lv_sub hl [0, 1, 2, 3, 4, 5, 6] rfl⟩ (by show (j - 1) < j; omega)
      · refine lv_iconst (v := (-1)) hx hb dX9_stepOf_53 (by decide) ?_
        exact gx_iret (w' := [(h0, .inr (9, [v0, v1, v2, v3, v4, v5, v6, v7, v8, v9, v10, v11, v12, .ref a13, .ref a14, v15, v16, v17, v18, v19, v20, v21, v22, v23, v24, v25, v26, v27, v28, v29, v30, v31, v32, v33, v34, v35, v36, v37, v38, v39, v40, v41, v42, v43, v44, v45, v46, v47, v48, v49, v50, v51])), (a13, .inl (cI, 9000, .inl fr)), (a14, .inl (cI, 9000, .inl bf))]) hx hb hr hlk hK hP hD hS (Nat.le_of_ble_eq_true rfl) (Nat.le_of_ble_eq_true rfl) dX9_stepOf_54 ⟨(-1), (Or.inl rfl), rfl, rfl⟩
  · obtain ⟨q, hq1, hq2, hq3⟩ := (hF k (by omega)).resolve_left (fun e9 => absurd (show fr ((3000 * s9) + k) < 0 by rw [e9]; decide) c_1)
    refine lv_iinc (v := nI (len + 1)) (lv' := [(4, .int (nI (len + 1))), (5, .int (nI k)), (0, .ref h0), (1, .int (nI s9)), (2, .int (nI n)), (3, .int x)]) hx hb dX9_stepOf_22 hl (k := 1) rfl (nI_add len 1) (by decide) rfl (fun ls hl => ?_)
    refine lv_aload_n hx hb dX9_stepOf_25 rfl (lv_at hl 2 rfl) ?_
    refine va_get (D := D) (ci := 9) (v := .ref a13) (C := RX9) (T := TX9) (N := 52) hx hb hts (fun _ h => List.mem_cons_of_mem _ (List.mem_append_left _ (List.mem_append_right _ h))) hown hK hP 0 rfl rfl 13 (by decide) (hts (.fieldLink RX9 47 "LitmusHallModel" "from" "[I") (by decide +kernel)) (fun _ h9 => h9) rfl dX9_stepOf_26 ?_
    refine lv_sipush (v := 3000) hx hb dX9_stepOf_29 (by decide) ?_
    refine lv_iload_n hx hb dX9_stepOf_32 rfl (lv_at hl 3 rfl) ?_
    refine lv_imul hx hb dX9_stepOf_33 ?_
    refine gx_top (y := nI (3000 * s9)) (pk_mul 3000 s9) ?_
    refine lv_iload hx hb dX9_stepOf_34 (lv_at hl 1 rfl) ?_
    refine lv_iadd hx hb dX9_stepOf_36 ?_
    refine gx_top (y := nI ((3000 * s9) + k)) (nI_add (3000 * s9) k) ?_
    refine gy_ild (i := ((3000 * s9) + k)) hx hb hK hP 1 rfl (by omega) (by omega) dX9_stepOf_37 ?_
    refine gx_top (y := nI q) hq2 ?_
    refine lv_istore (lv' := [(5, .int (nI q)), (4, .int (nI (len + 1))), (0, .ref h0), (1, .int (nI s9)), (2, .int (nI n)), (3, .int x)]) hx hb dX9_stepOf_38 hl (by decide) rfl (fun ls hl => ?_)
    refine lv_goto (tgt := 6) hx hb dX9_stepOf_40 (by decide) ?_
    exact ih6 ((len + 1), q) H locs ls ⟨(by show q ≤ n; omega), (by show (len + 1) + q ≤ n; omega), (by show (len + 1) + Dp q ≤ Dp n; omega), (fun h q9 => by have := hi6_3 (h + 1) ⟨q, hq1, hq2, q9⟩; rw [show len + 1 + h = len + (h + 1) by omega]; exact this), hP, hD, hS, lv_sub hl [0, 1, 2, 3, 4, 5] rfl⟩ (by show q < k; omega)
