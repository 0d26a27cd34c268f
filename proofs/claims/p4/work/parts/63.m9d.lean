theorem dX9_integer_0 : decode cX9_integer 0 = .ok (.iconst 1, 1) := by decide +kernel
theorem dX9_integer_1 : decode cX9_integer 1 = .ok (.istore_n 1, 1) := by decide +kernel
theorem dX9_integer_10 : decode cX9_integer 10 = .ok (.aload_n 0, 1) := by decide +kernel
theorem dX9_integer_11 : decode cX9_integer 11 = .ok (.getfield 133, 3) := by decide +kernel
theorem dX9_integer_14 : decode cX9_integer 14 = .ok (.ldc2_w 178, 3) := by decide +kernel
theorem dX9_integer_17 : decode cX9_integer 17 = .ok (.lcmp, 1) := by decide +kernel
theorem dX9_integer_18 : decode cX9_integer 18 = .ok (.ifCond .ne 14, 3) := by decide +kernel
theorem dX9_integer_2 : decode cX9_integer 2 = .ok (.aload_n 0, 1) := by decide +kernel
theorem dX9_integer_21 : decode cX9_integer 21 = .ok (.iconst (-1), 1) := by decide +kernel
theorem dX9_integer_22 : decode cX9_integer 22 = .ok (.istore_n 1, 1) := by decide +kernel
theorem dX9_integer_23 : decode cX9_integer 23 = .ok (.aload_n 0, 1) := by decide +kernel
theorem dX9_integer_24 : decode cX9_integer 24 = .ok (.invokevirtual 164, 3) := by decide +kernel
theorem dX9_integer_27 : decode cX9_integer 27 = .ok (.ifCond .ne 5, 3) := by decide +kernel
theorem dX9_integer_3 : decode cX9_integer 3 = .ok (.getfield 137, 3) := by decide +kernel
theorem dX9_integer_30 : decode cX9_integer 30 = .ok (.iconst 0, 1) := by decide +kernel
theorem dX9_integer_31 : decode cX9_integer 31 = .ok (.ireturn, 1) := by decide +kernel
theorem dX9_integer_32 : decode cX9_integer 32 = .ok (.aload_n 0, 1) := by decide +kernel
theorem dX9_integer_33 : decode cX9_integer 33 = .ok (.invokevirtual 180, 3) := by decide +kernel
theorem dX9_integer_36 : decode cX9_integer 36 = .ok (.ifCond .ne 5, 3) := by decide +kernel
theorem dX9_integer_39 : decode cX9_integer 39 = .ok (.iconst 0, 1) := by decide +kernel
theorem dX9_integer_40 : decode cX9_integer 40 = .ok (.ireturn, 1) := by decide +kernel
theorem dX9_integer_41 : decode cX9_integer 41 = .ok (.aload_n 0, 1) := by decide +kernel
theorem dX9_integer_42 : decode cX9_integer 42 = .ok (.iload_n 1, 1) := by decide +kernel
theorem dX9_integer_43 : decode cX9_integer 43 = .ok (.aload_n 0, 1) := by decide +kernel
theorem dX9_integer_44 : decode cX9_integer 44 = .ok (.getfield 175, 3) := by decide +kernel
theorem dX9_integer_47 : decode cX9_integer 47 = .ok (.imul, 1) := by decide +kernel
theorem dX9_integer_48 : decode cX9_integer 48 = .ok (.putfield 175, 3) := by decide +kernel
theorem dX9_integer_51 : decode cX9_integer 51 = .ok (.iconst 1, 1) := by decide +kernel
theorem dX9_integer_52 : decode cX9_integer 52 = .ok (.ireturn, 1) := by decide +kernel
theorem dX9_integer_6 : decode cX9_integer 6 = .ok (.iconst 3, 1) := by decide +kernel
theorem dX9_integer_7 : decode cX9_integer 7 = .ok (.if_icmp .ne 25, 3) := by decide +kernel
theorem dX9_whole_0 : decode cX9_whole 0 = .ok (.aload_n 0, 1) := by decide +kernel
theorem dX9_whole_1 : decode cX9_whole 1 = .ok (.getfield 137, 3) := by decide +kernel
theorem dX9_whole_10 : decode cX9_whole 10 = .ok (.aload_n 0, 1) := by decide +kernel
theorem dX9_whole_11 : decode cX9_whole 11 = .ok (.getfield 130, 3) := by decide +kernel
theorem dX9_whole_14 : decode cX9_whole 14 = .ok (.invokevirtual 157, 3) := by decide +kernel
theorem dX9_whole_17 : decode cX9_whole 17 = .ok (.ireturn, 1) := by decide +kernel
theorem dX9_whole_18 : decode cX9_whole 18 = .ok (.aload_n 0, 1) := by decide +kernel
theorem dX9_whole_19 : decode cX9_whole 19 = .ok (.aload_n 0, 1) := by decide +kernel
theorem dX9_whole_20 : decode cX9_whole 20 = .ok (.getfield 130, 3) := by decide +kernel
theorem dX9_whole_23 : decode cX9_whole 23 = .ok (.putfield 172, 3) := by decide +kernel
theorem dX9_whole_26 : decode cX9_whole 26 = .ok (.aload_n 0, 1) := by decide +kernel
theorem dX9_whole_27 : decode cX9_whole 27 = .ok (.iconst 0, 1) := by decide +kernel
theorem dX9_whole_28 : decode cX9_whole 28 = .ok (.putfield 175, 3) := by decide +kernel
theorem dX9_whole_31 : decode cX9_whole 31 = .ok (.aload_n 0, 1) := by decide +kernel
theorem dX9_whole_32 : decode cX9_whole 32 = .ok (.getfield 130, 3) := by decide +kernel
theorem dX9_whole_35 : decode cX9_whole 35 = .ok (.istore_n 1, 1) := by decide +kernel
theorem dX9_whole_36 : decode cX9_whole 36 = .ok (.iload_n 1, 1) := by decide +kernel
theorem dX9_whole_37 : decode cX9_whole 37 = .ok (.aload_n 0, 1) := by decide +kernel
theorem dX9_whole_38 : decode cX9_whole 38 = .ok (.getfield 127, 3) := by decide +kernel
theorem dX9_whole_4 : decode cX9_whole 4 = .ok (.iconst 2, 1) := by decide +kernel
theorem dX9_whole_41 : decode cX9_whole 41 = .ok (.if_icmp .ge 30, 3) := by decide +kernel
theorem dX9_whole_44 : decode cX9_whole 44 = .ok (.aload_n 0, 1) := by decide +kernel
theorem dX9_whole_45 : decode cX9_whole 45 = .ok (.bipush 10, 2) := by decide +kernel
theorem dX9_whole_47 : decode cX9_whole 47 = .ok (.aload_n 0, 1) := by decide +kernel
theorem dX9_whole_48 : decode cX9_whole 48 = .ok (.getfield 175, 3) := by decide +kernel
theorem dX9_whole_5 : decode cX9_whole 5 = .ok (.if_icmp .eq 13, 3) := by decide +kernel
theorem dX9_whole_51 : decode cX9_whole 51 = .ok (.imul, 1) := by decide +kernel
theorem dX9_whole_52 : decode cX9_whole 52 = .ok (.aload_n 0, 1) := by decide +kernel
theorem dX9_whole_53 : decode cX9_whole 53 = .ok (.getfield 88, 3) := by decide +kernel
theorem dX9_whole_56 : decode cX9_whole 56 = .ok (.iload_n 1, 1) := by decide +kernel
theorem dX9_whole_57 : decode cX9_whole 57 = .ok (.baload, 1) := by decide +kernel
theorem dX9_whole_58 : decode cX9_whole 58 = .ok (.iadd, 1) := by decide +kernel
theorem dX9_whole_59 : decode cX9_whole 59 = .ok (.bipush 48, 2) := by decide +kernel
theorem dX9_whole_61 : decode cX9_whole 61 = .ok (.isub, 1) := by decide +kernel
theorem dX9_whole_62 : decode cX9_whole 62 = .ok (.putfield 175, 3) := by decide +kernel
theorem dX9_whole_65 : decode cX9_whole 65 = .ok (.iinc 1 1, 3) := by decide +kernel
theorem dX9_whole_68 : decode cX9_whole 68 = .ok (.goto (-32), 3) := by decide +kernel
theorem dX9_whole_71 : decode cX9_whole 71 = .ok (.aload_n 0, 1) := by decide +kernel
theorem dX9_whole_72 : decode cX9_whole 72 = .ok (.invokevirtual 164, 3) := by decide +kernel
theorem dX9_whole_75 : decode cX9_whole 75 = .ok (.ireturn, 1) := by decide +kernel
theorem dX9_whole_8 : decode cX9_whole 8 = .ok (.aload_n 0, 1) := by decide +kernel
theorem dX9_whole_9 : decode cX9_whole 9 = .ok (.iconst 1, 1) := by decide +kernel
def wsP_c_whole9 : List Cond := .code yX9_whole cX9_whole 2 (some .boolean) :: (([.fieldLink RX9 137 "LitmusHallModel" "sort" "I", .fieldLink RX9 130 "LitmusHallModel" "begin" "I", .fieldLink RX9 172 "LitmusHallModel" "numberPlace" "I", .fieldLink RX9 175 "LitmusHallModel" "number" "I", .fieldLink RX9 127 "LitmusHallModel" "end" "I", .methodLink RX9 164 yX9_pass, .instanceMethod yX9_pass, .selects RX9 yX9_pass yX9_pass, .initialized RX9, .fieldLink RX9 88 "LitmusHallModel" "tape" "[B", .methodLink RX9 157 yX9_stop, .instanceMethod yX9_stop, .selects RX9 yX9_stop yX9_stop] ++ wsX90) ++ (wsP_c_pass9 ++ (wsP_c_stop9 ++ [])))
theorem gW_c_whole9 : wsP_c_whole9.all goodWord = true := by unfold wsP_c_whole9; exact gw_mk (by decide +kernel) (gw_app gW_c_pass9 (gw_app gW_c_stop9 rfl))
set_option maxRecDepth 20000 in
theorem gP_c_whole9__c_pass9 : GoodIn wsP_c_whole9 (wsV RX9 164 RX9 yX9_pass wsP_c_pass9) := gw_in (pre := [.methodLink RX9 164 yX9_pass, .instanceMethod yX9_pass, .selects RX9 yX9_pass yX9_pass, .initialized RX9]) (by decide +kernel) (fun _ h => List.mem_cons_of_mem _ (List.mem_append_right _ (List.mem_append_left _ h))) gW_c_pass9
set_option maxRecDepth 20000 in
theorem gP_c_whole9__c_stop9 : GoodIn wsP_c_whole9 (wsV RX9 157 RX9 yX9_stop wsP_c_stop9) := gw_in (pre := [.methodLink RX9 157 yX9_stop, .instanceMethod yX9_stop, .selects RX9 yX9_stop yX9_stop, .initialized RX9]) (by decide +kernel) (fun _ h => List.mem_cons_of_mem _ (List.mem_append_right _ (List.mem_append_right _ (List.mem_append_left _ h)))) gW_c_stop9
set_option maxHeartbeats 4000000 in
set_option maxRecDepth 100000 in
theorem c_whole9 (l : Launch) (D : va_G) (cI cB cZ : ClassId) (h0 : Nat) (a27 : Nat) (tp : Nat) (f : Nat → Int32) (v0 : Value) (v1 : Value) (v2 : Value) (v3 : Value) (v4 : Value) (v5 : Value) (v6 : Value) (v7 : Value) (v8 : Value) (v9 : Value) (v10 : Value) (v11 : Value) (v12 : Value) (v13 : Value) (v14 : Value) (v15 : Value) (v16 : Value) (v17 : Value) (v18 : Value) (v19 : Value) (v20 : Value) (v21 : Value) (v22 : Value) (v23 : Value) (v24 : Value) (v25 : Value) (v26 : Value) (v39 : Value) (v40 : Value) (v41 : Value) (v42 : Value) (v43 : Value) (v44 : Value) (v45 : Value) (v46 : Value) (v47 : Value) (v48 : Value) (v49 : Value) (v50 : Value) (v51 : Value) (so : Int32) (bg : Nat) (en : Nat) (wd : Int64) (tk : Nat) (fk : Int32) (fp : Int32) (sd : Int32) (nb : Int32) (np : Int32) (htp : tp ≤ 4000) (htk : tk ≤ 501) (hT : gTk f so bg en tp) : gMi l yX9_whole wsP_c_whole9 ({ frames := 4, cells := 0, slots := 0, locals := 86 }) D cI cB cZ [] [.ref h0] [(h0, .inr (9, [v0, v1, v2, v3, v4, v5, v6, v7, v8, v9, v10, v11, v12, v13, v14, v15, v16, v17, v18, v19, v20, v21, v22, v23, v24, v25, v26, .ref a27, .int (nI tp), .int fk, .int fp, .int so, .int (nI bg), .int (nI en), .long wd, .int (nI tk), .int sd, .int nb, .int np, v39, v40, v41, v42, v43, v44, v45, v46, v47, v48, v49, v50, v51])), (a27, .inl (cB, 4000, .inl f))] (fun r9 w9 => ∃ z : Int32, ∃ so9 : Int32, ∃ bg9 : Nat, ∃ en9 : Nat, ∃ wd9 : Int64, ∃ tk9 : Nat, ∃ fk9 : Int32, ∃ fp9 : Int32, ∃ sd9 : Int32, ∃ nb9 : Int32, ∃ np9 : Int32, (z = 0 ∨ (z = 1 ∧ tk < tk9 ∧ (fk9 = 0 → fk = 0))) ∧ (tk ≤ tk9 ∧ tk9 ≤ 501) ∧ (gTk f so9 bg9 en9 tp) ∧ (z = 1 → ∃ m9 c9, m9 ≤ 999 ∧ nb9 = nI m9 ∧ c9 ≤ 4000 ∧ np9 = nI c9) ∧ r9 = z ∧ w9 = [(h0, .inr (9, [v0, v1, v2, v3, v4, v5, v6, v7, v8, v9, v10, v11, v12, v13, v14, v15, v16, v17, v18, v19, v20, v21, v22, v23, v24, v25, v26, .ref a27, .int (nI tp), .int fk9, .int fp9, .int so9, .int (nI bg9), .int (nI en9), .long wd9, .int (nI tk9), .int sd9, .int nb9, .int np9, v39, v40, v41, v42, v43, v44, v45, v46, v47, v48, v49, v50, v51])), (a27, .inl (cB, 4000, .inl f))]) := by
  refine gMi.of (cc := cX9_whole) (maxL := 2) (ret := (some .boolean)) (by decide) rfl (Nat.le_of_ble_eq_true rfl) (fun p e s m below meth c A ls hx hb hr hlk hml hts hown hin hA hP hK hD hS hN hl => ?_)
  have hown : s.vm.findClass RX9 = some m.cls := hown
  have hl : lv_has ls 2 [(0, .ref h0)] := hl
  have hT1 := gTk_le hT
  refine lv_aload_n hx hb dX9_whole_0 rfl (lv_at hl 0 rfl) ?_
  refine va_get (D := D) (ci := 9) (v := .int so) (C := RX9) (T := TX9) (N := 52) hx hb hts (fun _ h => List.mem_cons_of_mem _ (List.mem_append_left _ (List.mem_append_right _ h))) hown hK hP 0 rfl rfl 31 (by decide) (hts (.fieldLink RX9 137 "LitmusHallModel" "sort" "I") (by decide +kernel)) (fun _ h9 => h9) rfl dX9_whole_1 ?_
  refine lv_iconst (v := 2) hx hb dX9_whole_4 (by decide) ?_
  refine lv_icmp_eq (tgt := 18) hx hb dX9_whole_5 (by decide) (fun c_1 => ?_) (fun c_1 => ?_)
  · have hdd := hT.2.2 c_1
    refine lv_aload_n hx hb dX9_whole_18 rfl (lv_at hl 0 rfl) ?_
    refine lv_aload_n hx hb dX9_whole_19 rfl (lv_at hl 0 rfl) ?_
    refine va_get (D := D) (ci := 9) (v := .int (nI bg)) (C := RX9) (T := TX9) (N := 52) hx hb hts (fun _ h => List.mem_cons_of_mem _ (List.mem_append_left _ (List.mem_append_right _ h))) hown hK hP 0 rfl rfl 32 (by decide) (hts (.fieldLink RX9 130 "LitmusHallModel" "begin" "I") (by decide +kernel)) (fun _ h9 => h9) rfl dX9_whole_20 ?_
    refine va_put (D := D) (ci := 9) (v := .int (nI bg)) (ty := .int) (C := RX9) (T := TX9) (N := 52) hx hb hts (fun _ h => List.mem_cons_of_mem _ (List.mem_append_left _ (List.mem_append_right _ h))) tyX9 tyX9_ok nmX9 hown hK hP hD hS 0 rfl rfl 38 (by decide) (hts (.fieldLink RX9 172 "LitmusHallModel" "numberPlace" "I") (by decide +kernel)) (fun _ h9 => h9) rfl (by decide +kernel) rfl rfl (Nat.le_of_ble_eq_true rfl) dX9_whole_23 (fun H locs hP hD hS => ?_)
    have hP : va_P D vwCl [(h0, .inr (9, [v0, v1, v2, v3, v4, v5, v6, v7, v8, v9, v10, v11, v12, v13, v14, v15, v16, v17, v18, v19, v20, v21, v22, v23, v24, v25, v26, .ref a27, .int (nI tp), .int fk, .int fp, .int so, .int (nI bg), .int (nI en), .long wd, .int (nI tk), .int sd, .int nb, .int (nI bg), v39, v40, v41, v42, v43, v44, v45, v46, v47, v48, v49, v50, v51])), (a27, .inl (cB, 4000, .inl f))] H := hP
    have hD : va_D A [(h0, .inr (9, [v0, v1, v2, v3, v4, v5, v6, v7, v8, v9, v10, v11, v12, v13, v14, v15, v16, v17, v18, v19, v20, v21, v22, v23, v24, v25, v26, .ref a27, .int (nI tp), .int fk, .int fp, .int so, .int (nI bg), .int (nI en), .long wd, .int (nI tk), .int sd, .int nb, .int (nI bg), v39, v40, v41, v42, v43, v44, v45, v46, v47, v48, v49, v50, v51])), (a27, .inl (cB, 4000, .inl f))] := hD
    refine lv_aload_n hx hb dX9_whole_26 rfl (lv_at hl 0 rfl) ?_
    refine lv_iconst (v := 0) hx hb dX9_whole_27 (by decide) ?_
    refine va_put (D := D) (ci := 9) (v := .int 0) (ty := .int) (C := RX9) (T := TX9) (N := 52) hx hb hts (fun _ h => List.mem_cons_of_mem _ (List.mem_append_left _ (List.mem_append_right _ h))) tyX9 tyX9_ok nmX9 hown hK hP hD hS 0 rfl rfl 37 (by decide) (hts (.fieldLink RX9 175 "LitmusHallModel" "number" "I") (by decide +kernel)) (fun _ h9 => h9) rfl (by decide +kernel) rfl rfl (Nat.le_of_ble_eq_true rfl) dX9_whole_28 (fun H locs hP hD hS => ?_)
    have hP : va_P D vwCl [(h0, .inr (9, [v0, v1, v2, v3, v4, v5, v6, v7, v8, v9, v10, v11, v12, v13, v14, v15, v16, v17, v18, v19, v20, v21, v22, v23, v24, v25, v26, .ref a27, .int (nI tp), .int fk, .int fp, .int so, .int (nI bg), .int (nI en), .long wd, .int (nI tk), .int sd, .int 0, .int (nI bg), v39, v40, v41, v42, v43, v44, v45, v46, v47, v48, v49, v50, v51])), (a27, .inl (cB, 4000, .inl f))] H := hP
    have hD : va_D A [(h0, .inr (9, [v0, v1, v2, v3, v4, v5, v6, v7, v8, v9, v10, v11, v12, v13, v14, v15, v16, v17, v18, v19, v20, v21, v22, v23, v24, v25, v26, .ref a27, .int (nI tp), .int fk, .int fp, .int so, .int (nI bg), .int (nI en), .long wd, .int (nI tk), .int sd, .int 0, .int (nI bg), v39, v40, v41, v42, v43, v44, v45, v46, v47, v48, v49, v50, v51])), (a27, .inl (cB, 4000, .inl f))] := hD
    refine lv_aload_n hx hb dX9_whole_31 rfl (lv_at hl 0 rfl) ?_
    refine va_get (D := D) (ci := 9) (v := .int (nI bg)) (C := RX9) (T := TX9) (N := 52) hx hb hts (fun _ h => List.mem_cons_of_mem _ (List.mem_append_left _ (List.mem_append_right _ h))) hown hK hP 0 rfl rfl 32 (by decide) (hts (.fieldLink RX9 130 "LitmusHallModel" "begin" "I") (by decide +kernel)) (fun _ h9 => h9) rfl dX9_whole_32 ?_
    refine lv_istore_n (lv' := [(1, .int (nI bg)), (0, .ref h0)]) hx hb dX9_whole_35 rfl hl (by decide) rfl (fun ls hl => ?_)
    refine gy_loop0 (I := fun (x9 : Nat × Nat) H locs ls => (bg ≤ x9.1) ∧ (x9.1 ≤ en) ∧ ((x9.1 = bg ∧ x9.2 = 0) ∨ (x9.1 = bg + 1 ∧ x9.2 ≤ 9) ∨ (x9.1 = bg + 2 ∧ x9.2 ≤ 99) ∨ (x9.1 = bg + 3 ∧ x9.2 ≤ 999)) ∧ va_P D vwCl [(h0, .inr (9, [v0, v1, v2, v3, v4, v5, v6, v7, v8, v9, v10, v11, v12, v13, v14, v15, v16, v17, v18, v19, v20, v21, v22, v23, v24, v25, v26, .ref a27, .int (nI tp), .int fk, .int fp, .int so, .int (nI bg), .int (nI en), .long wd, .int (nI tk), .int sd, .int (nI x9.2), .int (nI bg), v39, v40, v41, v42, v43, v44, v45, v46, v47, v48, v49, v50, v51])), (a27, .inl (cB, 4000, .inl f))] H ∧ va_D A [(h0, .inr (9, [v0, v1, v2, v3, v4, v5, v6, v7, v8, v9, v10, v11, v12, v13, v14, v15, v16, v17, v18, v19, v20, v21, v22, v23, v24, v25, v26, .ref a27, .int (nI tp), .int fk, .int fp, .int so, .int (nI bg), .int (nI en), .long wd, .int (nI tk), .int sd, .int (nI x9.2), .int (nI bg), v39, v40, v41, v42, v43, v44, v45, v46, v47, v48, v49, v50, v51])), (a27, .inl (cB, 4000, .inl f))] ∧ va_S A s.heap H locs ∧ lv_has ls 2 [(1, .int (nI x9.1)), (0, .ref h0)]) (μ := fun (x9 : Nat × Nat) => en - x9.1) (fun x9 H locs ls hI ih36 => ?_) (bg, 0) ⟨(by show bg ≤ bg; omega), (by show bg ≤ en; omega), (by show (bg = bg ∧ 0 = 0) ∨ (bg = bg + 1 ∧ 0 ≤ 9) ∨ (bg = bg + 2 ∧ 0 ≤ 99) ∨ (bg = bg + 3 ∧ 0 ≤ 999); omega), hP, hD, hS, lv_sub hl [0, 1] rfl⟩
    obtain ⟨i, m1⟩ := x9
    obtain ⟨hi36_0, hi36_1, hi36_2, hP, hD, hS, hl⟩ := hI
    have hi36_0 : bg ≤ i := hi36_0
    have hi36_1 : i ≤ en := hi36_1
    have hi36_2 : (i = bg ∧ m1 = 0) ∨ (i = bg + 1 ∧ m1 ≤ 9) ∨ (i = bg + 2 ∧ m1 ≤ 99) ∨ (i = bg + 3 ∧ m1 ≤ 999) := hi36_2
    have hP : va_P D vwCl [(h0, .inr (9, [v0, v1, v2, v3, v4, v5, v6, v7, v8, v9, v10, v11, v12, v13, v14, v15, v16, v17, v18, v19, v20, v21, v22, v23, v24, v25, v26, .ref a27, .int (nI tp), .int fk, .int fp, .int so, .int (nI bg), .int (nI en), .long wd, .int (nI tk), .int sd, .int (nI m1), .int (nI bg), v39, v40, v41, v42, v43, v44, v45, v46, v47, v48, v49, v50, v51])), (a27, .inl (cB, 4000, .inl f))] H := hP
    have hD : va_D A [(h0, .inr (9, [v0, v1, v2, v3, v4, v5, v6, v7, v8, v9, v10, v11, v12, v13, v14, v15, v16, v17, v18, v19, v20, v21, v22, v23, v24, v25, v26, .ref a27, .int (nI tp), .int fk, .int fp, .int so, .int (nI bg), .int (nI en), .long wd, .int (nI tk), .int sd, .int (nI m1), .int (nI bg), v39, v40, v41, v42, v43, v44, v45, v46, v47, v48, v49, v50, v51])), (a27, .inl (cB, 4000, .inl f))] := hD
    have hS : va_S A s.heap H locs := hS
    have hl : lv_has ls 2 [(1, .int (nI i)), (0, .ref h0)] := hl
    refine lv_iload_n hx hb dX9_whole_36 rfl (lv_at hl 0 rfl) ?_
    refine lv_aload_n hx hb dX9_whole_37 rfl (lv_at hl 1 rfl) ?_
    refine va_get (D := D) (ci := 9) (v := .int (nI en)) (C := RX9) (T := TX9) (N := 52) hx hb hts (fun _ h => List.mem_cons_of_mem _ (List.mem_append_left _ (List.mem_append_right _ h))) hown hK hP 0 rfl rfl 33 (by decide) (hts (.fieldLink RX9 127 "LitmusHallModel" "end" "I") (by decide +kernel)) (fun _ h9 => h9) rfl dX9_whole_38 ?_
    refine gy_ge (a := i) (b := en) (tgt := 71) hx hb (by omega) (by omega) dX9_whole_41 (by decide) (fun c_2 => ?_) (fun c_2 => ?_)
    · refine lv_aload_n hx hb dX9_whole_71 rfl (lv_at hl 1 rfl) ?_
      refine gx_goi (wc := [(h0, .inr (9, [v0, v1, v2, v3, v4, v5, v6, v7, v8, v9, v10, v11, v12, v13, v14, v15, v16, v17, v18, v19, v20, v21, v22, v23, v24, v25, v26, .ref a27, .int (nI tp), .int fk, .int fp, .int so, .int (nI bg), .int (nI en), .long wd, .int (nI tk), .int sd, .int (nI m1), .int (nI bg), v39, v40, v41, v42, v43, v44, v45, v46, v47, v48, v49, v50, v51])), (a27, .inl (cB, 4000, .inl f))]) (wr := []) (va_runV (As := []) (rest := []) ⟨hx, hb, hml, hown, hts⟩ (c_pass9 l D cI cB cZ h0 a27 tp f (v0) (v1) (v2) (v3) (v4) (v5) (v6) (v7) (v8) (v9) (v10) (v11) (v12) (v13) (v14) (v15) (v16) (v17) (v18) (v19) (v20) (v21) (v22) (v23) (v24) (v25) (v26) (.int (nI m1)) (.int (nI bg)) (v39) (v40) (v41) (v42) (v43) (v44) (v45) (v46) (v47) (v48) (v49) (v50) (v51) so bg en wd tk fk fp sd (by omega) (by omega) hT _) (cwV 0 hts gP_c_whole9__c_pass9 rfl rfl rfl (by decide +kernel) ⟨Nat.le_of_ble_eq_true rfl, Nat.le_of_ble_eq_true rfl⟩) (gx_preV (ci := 9) (q0 := 0) hK gN.nil hP hD [0, 1] rfl rfl rfl rfl) rfl rfl hl.1 rfl (lv_room (Nat.le_of_ble_eq_true rfl)) dX9_whole_72 ⟨Nat.le_of_ble_eq_true rfl, Nat.le_of_ble_eq_true rfl⟩) hP hD hS hA [0, 1] [] rfl rfl rfl (by decide) (fun r1 w1 H locs hp hP hD hS => ?_)
      obtain ⟨e_3, e_4, e_5, e_6, e_7, e_8, e_9, e_10, e_11, hq_12, hq_13, hq_14, h9, rfl⟩ := hp
      have h9 := h9.symm
      subst h9
      have hq_12 : e_3 = 0 ∨ (e_3 = 1 ∧ tk < e_8 ∧ (e_9 = 0 → fk = 0)) := hq_12
      have hq_13 : tk ≤ e_8 ∧ e_8 ≤ 501 := hq_13
      have hq_14 : gTk f e_4 e_5 e_6 tp := hq_14
      have hP : va_P D vwCl [(h0, .inr (9, [v0, v1, v2, v3, v4, v5, v6, v7, v8, v9, v10, v11, v12, v13, v14, v15, v16, v17, v18, v19, v20, v21, v22, v23, v24, v25, v26, .ref a27, .int (nI tp), .int e_9, .int e_10, .int e_4, .int (nI e_5), .int (nI e_6), .long e_7, .int (nI e_8), .int e_11, .int (nI m1), .int (nI bg), v39, v40, v41, v42, v43, v44, v45, v46, v47, v48, v49, v50, v51])), (a27, .inl (cB, 4000, .inl f))] H := hP
      have hD : va_D A [(h0, .inr (9, [v0, v1, v2, v3, v4, v5, v6, v7, v8, v9, v10, v11, v12, v13, v14, v15, v16, v17, v18, v19, v20, v21, v22, v23, v24, v25, v26, .ref a27, .int (nI tp), .int e_9, .int e_10, .int e_4, .int (nI e_5), .int (nI e_6), .long e_7, .int (nI e_8), .int e_11, .int (nI m1), .int (nI bg), v39, v40, v41, v42, v43, v44, v45, v46, v47, v48, v49, v50, v51])), (a27, .inl (cB, 4000, .inl f))] := hD
      have hp0 := hq_12
      have hp2 := hq_14
      exact gx_zret (w' := [(h0, .inr (9, [v0, v1, v2, v3, v4, v5, v6, v7, v8, v9, v10, v11, v12, v13, v14, v15, v16, v17, v18, v19, v20, v21, v22, v23, v24, v25, v26, .ref a27, .int (nI tp), .int e_9, .int e_10, .int e_4, .int (nI e_5), .int (nI e_6), .long e_7, .int (nI e_8), .int e_11, .int (nI m1), .int (nI bg), v39, v40, v41, v42, v43, v44, v45, v46, v47, v48, v49, v50, v51])), (a27, .inl (cB, 4000, .inl f))]) hx hb hr hlk hK hP hD hS (Nat.le_of_ble_eq_true rfl) (Nat.le_of_ble_eq_true rfl) dX9_whole_75 (by first | rfl | exact gy_z01 (hp0.imp id And.left)) ⟨e_3, e_4, e_5, e_6, e_7, e_8, e_9, e_10, e_11, (nI m1), (nI bg), hp0, (by omega), hp2, (fun _ => ⟨m1, bg, by omega, rfl, by omega, rfl⟩), rfl, rfl⟩
    · refine lv_aload_n hx hb dX9_whole_44 rfl (lv_at hl 1 rfl) ?_
      refine lv_bipush (v := 10) hx hb dX9_whole_45 (by decide) ?_
      refine lv_aload_n hx hb dX9_whole_47 rfl (lv_at hl 1 rfl) ?_
      refine va_get (D := D) (ci := 9) (v := .int (nI m1)) (C := RX9) (T := TX9) (N := 52) hx hb hts (fun _ h => List.mem_cons_of_mem _ (List.mem_append_left _ (List.mem_append_right _ h))) hown hK hP 0 rfl rfl 37 (by decide) (hts (.fieldLink RX9 175 "LitmusHallModel" "number" "I") (by decide +kernel)) (fun _ h9 => h9) rfl dX9_whole_48 ?_
      refine lv_imul hx hb dX9_whole_51 ?_
      refine gx_top (y := nI (10 * m1)) (pk_mul 10 m1) ?_
      refine lv_aload_n hx hb dX9_whole_52 rfl (lv_at hl 1 rfl) ?_
      refine va_get (D := D) (ci := 9) (v := .ref a27) (C := RX9) (T := TX9) (N := 52) hx hb hts (fun _ h => List.mem_cons_of_mem _ (List.mem_append_left _ (List.mem_append_right _ h))) hown hK hP 0 rfl rfl 27 (by decide) (hts (.fieldLink RX9 88 "LitmusHallModel" "tape" "[B") (by decide +kernel)) (fun _ h9 => h9) rfl dX9_whole_53 ?_
      refine lv_iload_n hx hb dX9_whole_56 rfl (lv_at hl 0 rfl) ?_
      obtain ⟨d, hd9, ed⟩ := gy_dig (hdd.2 i (by omega) (by omega))
      refine gy_bld (i := i) hx hb hK hP 1 rfl (by omega) (by omega) dX9_whole_57 ?_
      refine gx_top (y := nI (48 + d)) ed ?_
      refine lv_iadd hx hb dX9_whole_58 ?_
      refine gx_top (y := nI ((10 * m1) + (48 + d))) (nI_add (10 * m1) (48 + d)) ?_
      refine lv_bipush (v := 48) hx hb dX9_whole_59 (by decide) ?_
      refine lv_isub hx hb dX9_whole_61 ?_
      refine gx_top (y := nI (10 * m1 + d)) (show nI (10 * m1 + (48 + d)) - nI 48 = nI (10 * m1 + d) by rw [pk_sub (a := 10 * m1 + (48 + d)) (b := 48) (by omega)]; congr 1; omega) ?_
      refine va_put (D := D) (ci := 9) (v := .int (nI (10 * m1 + d))) (ty := .int) (C := RX9) (T := TX9) (N := 52) hx hb hts (fun _ h => List.mem_cons_of_mem _ (List.mem_append_left _ (List.mem_append_right _ h))) tyX9 tyX9_ok nmX9 hown hK hP hD hS 0 rfl rfl 37 (by decide) (hts (.fieldLink RX9 175 "LitmusHallModel" "number" "I") (by decide +kernel)) (fun _ h9 => h9) rfl (by decide +kernel) rfl rfl (Nat.le_of_ble_eq_true rfl) dX9_whole_62 (fun H locs hP hD hS => ?_)
      have hP : va_P D vwCl [(h0, .inr (9, [v0, v1, v2, v3, v4, v5, v6, v7, v8, v9, v10, v11, v12, v13, v14, v15, v16, v17, v18, v19, v20, v21, v22, v23, v24, v25, v26, .ref a27, .int (nI tp), .int fk, .int fp, .int so, .int (nI bg), .int (nI en), .long wd, .int (nI tk), .int sd, .int (nI (10 * m1 + d)), .int (nI bg), v39, v40, v41, v42, v43, v44, v45, v46, v47, v48, v49, v50, v51])), (a27, .inl (cB, 4000, .inl f))] H := hP
      have hD : va_D A [(h0, .inr (9, [v0, v1, v2, v3, v4, v5, v6, v7, v8, v9, v10, v11, v12, v13, v14, v15, v16, v17, v18, v19, v20, v21, v22, v23, v24, v25, v26, .ref a27, .int (nI tp), .int fk, .int fp, .int so, .int (nI bg), .int (nI en), .long wd, .int (nI tk), .int sd, .int (nI (10 * m1 + d)), .int (nI bg), v39, v40, v41, v42, v43, v44, v45, v46, v47, v48, v49, v50, v51])), (a27, .inl (cB, 4000, .inl f))] := hD
      refine lv_iinc (v := nI (i + 1)) (lv' := [(1, .int (nI (i + 1))), (0, .ref h0)]) hx hb dX9_whole_65 hl (k := 0) rfl (nI_add i 1) (by decide) rfl (fun ls hl => ?_)
      refine lv_goto (tgt := 36) hx hb dX9_whole_68 (by decide) ?_
      exact ih36 ((i + 1), (10 * m1 + d)) H locs ls ⟨(by show bg ≤ (i + 1); omega), (by show (i + 1) ≤ en; omega), (by show ((i + 1) = bg ∧ (10 * m1 + d) = 0) ∨ ((i + 1) = bg + 1 ∧ (10 * m1 + d) ≤ 9) ∨ ((i + 1) = bg + 2 ∧ (10 * m1 + d) ≤ 99) ∨ ((i + 1) = bg + 3 ∧ (10 * m1 + d) ≤ 999); omega), hP, hD, hS, lv_sub hl [0, 1] rfl⟩ (by show en - (i + 1) < en - i; omega)
  · refine lv_aload_n hx hb dX9_whole_8 rfl (lv_at hl 0 rfl) ?_
    refine lv_iconst (v := 1) hx hb dX9_whole_9 (by decide) ?_
    refine lv_aload_n hx hb dX9_whole_10 rfl (lv_at hl 0 rfl) ?_
    refine va_get (D := D) (ci := 9) (v := .int (nI bg)) (C := RX9) (T := TX9) (N := 52) hx hb hts (fun _ h => List.mem_cons_of_mem _ (List.mem_append_left _ (List.mem_append_right _ h))) hown hK hP 0 rfl rfl 32 (by decide) (hts (.fieldLink RX9 130 "LitmusHallModel" "begin" "I") (by decide +kernel)) (fun _ h9 => h9) rfl dX9_whole_11 ?_
    refine gx_goi (wc := [(h0, .inr (9, [v0, v1, v2, v3, v4, v5, v6, v7, v8, v9, v10, v11, v12, v13, v14, v15, v16, v17, v18, v19, v20, v21, v22, v23, v24, v25, v26, .ref a27, .int (nI tp), .int fk, .int fp, .int so, .int (nI bg), .int (nI en), .long wd, .int (nI tk), .int sd, .int nb, .int np, v39, v40, v41, v42, v43, v44, v45, v46, v47, v48, v49, v50, v51]))]) (wr := [(a27, .inl (cB, 4000, .inl f))]) (va_runV (As := [.int 1, .int (nI bg)]) (rest := []) ⟨hx, hb, hml, hown, hts⟩ (c_stop9 l D cI cB cZ h0 (v0) (v1) (v2) (v3) (v4) (v5) (v6) (v7) (v8) (v9) (v10) (v11) (v12) (v13) (v14) (v15) (v16) (v17) (v18) (v19) (v20) (v21) (v22) (v23) (v24) (v25) (v26) (.ref a27) (.int (nI tp)) (.int so) (.int (nI bg)) (.int (nI en)) (.long wd) (.int (nI tk)) (.int nb) (.int np) (v39) (v40) (v41) (v42) (v43) (v44) (v45) (v46) (v47) (v48) (v49) (v50) (v51) fk fp sd 1 (nI bg) _) (cwV 2 hts gP_c_whole9__c_stop9 rfl rfl rfl (by decide +kernel) ⟨Nat.le_of_ble_eq_true rfl, Nat.le_of_ble_eq_true rfl⟩) (gx_preV (ci := 9) (q0 := 0) hK gN.nil hP hD [0] rfl rfl rfl rfl) rfl rfl hl.1 rfl (lv_room (Nat.le_of_ble_eq_true rfl)) dX9_whole_14 ⟨Nat.le_of_ble_eq_true rfl, Nat.le_of_ble_eq_true rfl⟩) hP hD hS hA [0] [1] rfl rfl rfl (by decide) (fun r1 w1 H locs hp hP hD hS => ?_)
    obtain ⟨h9, rfl⟩ := hp
    have h9 := h9.symm
    subst h9
    have hP : va_P D vwCl [(a27, .inl (cB, 4000, .inl f)), (h0, .inr (9, [v0, v1, v2, v3, v4, v5, v6, v7, v8, v9, v10, v11, v12, v13, v14, v15, v16, v17, v18, v19, v20, v21, v22, v23, v24, v25, v26, .ref a27, .int (nI tp), .int 1, .int (nI bg), .int so, .int (nI bg), .int (nI en), .long wd, .int (nI tk), .int 1, .int nb, .int np, v39, v40, v41, v42, v43, v44, v45, v46, v47, v48, v49, v50, v51]))] H := hP
    have hD : va_D A [(a27, .inl (cB, 4000, .inl f)), (h0, .inr (9, [v0, v1, v2, v3, v4, v5, v6, v7, v8, v9, v10, v11, v12, v13, v14, v15, v16, v17, v18, v19, v20, v21, v22, v23, v24, v25, v26, .ref a27, .int (nI tp), .int 1, .int (nI bg), .int so, .int (nI bg), .int (nI en), .long wd, .int (nI tk), .int 1, .int nb, .int np, v39, v40, v41, v42, v43, v44, v45, v46, v47, v48, v49, v50, v51]))] := hD
    have hP := hP.sub (ws' := [(h0, .inr (9, [v0, v1, v2, v3, v4, v5, v6, v7, v8, v9, v10, v11, v12, v13, v14, v15, v16, v17, v18, v19, v20, v21, v22, v23, v24, v25, v26, .ref a27, .int (nI tp), .int 1, .int (nI bg), .int so, .int (nI bg), .int (nI en), .long wd, .int (nI tk), .int 1, .int nb, .int np, v39, v40, v41, v42, v43, v44, v45, v46, v47, v48, v49, v50, v51])), (a27, .inl (cB, 4000, .inl f))]) [1, 0] rfl
    have hD := hD.sub (ws' := [(h0, .inr (9, [v0, v1, v2, v3, v4, v5, v6, v7, v8, v9, v10, v11, v12, v13, v14, v15, v16, v17, v18, v19, v20, v21, v22, v23, v24, v25, v26, .ref a27, .int (nI tp), .int 1, .int (nI bg), .int so, .int (nI bg), .int (nI en), .long wd, .int (nI tk), .int 1, .int nb, .int np, v39, v40, v41, v42, v43, v44, v45, v46, v47, v48, v49, v50, v51])), (a27, .inl (cB, 4000, .inl f))]) [1, 0] (by decide) rfl
    exact gx_zret (w' := [(h0, .inr (9, [v0, v1, v2, v3, v4, v5, v6, v7, v8, v9, v10, v11, v12, v13, v14, v15, v16, v17, v18, v19, v20, v21, v22, v23, v24, v25, v26, .ref a27, .int (nI tp), .int 1, .int (nI bg), .int so, .int (nI bg), .int (nI en), .long wd, .int (nI tk), .int 1, .int nb, .int np, v39, v40, v41, v42, v43, v44, v45, v46, v47, v48, v49, v50, v51])), (a27, .inl (cB, 4000, .inl f))]) hx hb hr hlk hK hP hD hS (Nat.le_of_ble_eq_true rfl) (Nat.le_of_ble_eq_true rfl) dX9_whole_17 rfl ⟨0, so, bg, en, wd, tk, 1, (nI bg), 1, nb, np, (Or.inl rfl), (by omega), hT, (fun h => absurd h (by decide)), rfl, rfl⟩
def wsP_c_integer9 : List Cond := .code yX9_integer cX9_integer 2 (some .boolean) :: (([.fieldLink RX9 137 "LitmusHallModel" "sort" "I", .methodLink RX9 180 yX9_whole, .instanceMethod yX9_whole, .selects RX9 yX9_whole yX9_whole, .initialized RX9, .fieldLink RX9 175 "LitmusHallModel" "number" "I", .fieldLink RX9 133 "LitmusHallModel" "word" "J", .constantLong RX9 178 (45), .methodLink RX9 164 yX9_pass, .instanceMethod yX9_pass, .selects RX9 yX9_pass yX9_pass] ++ wsX90) ++ (wsP_c_whole9 ++ (wsP_c_pass9 ++ [])))
theorem gW_c_integer9 : wsP_c_integer9.all goodWord = true := by unfold wsP_c_integer9; exact gw_mk (by decide +kernel) (gw_app gW_c_whole9 (gw_app gW_c_pass9 rfl))
set_option maxRecDepth 20000 in
theorem gP_c_integer9__c_whole9 : GoodIn wsP_c_integer9 (wsV RX9 180 RX9 yX9_whole wsP_c_whole9) := gw_in (pre := [.methodLink RX9 180 yX9_whole, .instanceMethod yX9_whole, .selects RX9 yX9_whole yX9_whole, .initialized RX9]) (by decide +kernel) (fun _ h => List.mem_cons_of_mem _ (List.mem_append_right _ (List.mem_append_left _ h))) gW_c_whole9
set_option maxRecDepth 20000 in
theorem gP_c_integer9__c_pass9 : GoodIn wsP_c_integer9 (wsV RX9 164 RX9 yX9_pass wsP_c_pass9) := gw_in (pre := [.methodLink RX9 164 yX9_pass, .instanceMethod yX9_pass, .selects RX9 yX9_pass yX9_pass, .initialized RX9]) (by decide +kernel) (fun _ h => List.mem_cons_of_mem _ (List.mem_append_right _ (List.mem_append_right _ (List.mem_append_left _ h)))) gW_c_pass9
set_option maxHeartbeats 4000000 in
set_option maxRecDepth 100000 in
theorem c_integer9 (l : Launch) (D : va_G) (cI cB cZ : ClassId) (h0 : Nat) (a27 : Nat) (tp : Nat) (f : Nat → Int32) (v0 : Value) (v1 : Value) (v2 : Value) (v3 : Value) (v4 : Value) (v5 : Value) (v6 : Value) (v7 : Value) (v8 : Value) (v9 : Value) (v10 : Value) (v11 : Value) (v12 : Value) (v13 : Value) (v14 : Value) (v15 : Value) (v16 : Value) (v17 : Value) (v18 : Value) (v19 : Value) (v20 : Value) (v21 : Value) (v22 : Value) (v23 : Value) (v24 : Value) (v25 : Value) (v26 : Value) (v39 : Value) (v40 : Value) (v41 : Value) (v42 : Value) (v43 : Value) (v44 : Value) (v45 : Value) (v46 : Value) (v47 : Value) (v48 : Value) (v49 : Value) (v50 : Value) (v51 : Value) (so : Int32) (bg : Nat) (en : Nat) (wd : Int64) (tk : Nat) (fk : Int32) (fp : Int32) (sd : Int32) (nb : Int32) (np : Int32) (htp : tp ≤ 4000) (htk : tk ≤ 501) (hT : gTk f so bg en tp) : gMi l yX9_integer wsP_c_integer9 ({ frames := 5, cells := 0, slots := 0, locals := 107 }) D cI cB cZ [] [.ref h0] [(h0, .inr (9, [v0, v1, v2, v3, v4, v5, v6, v7, v8, v9, v10, v11, v12, v13, v14, v15, v16, v17, v18, v19, v20, v21, v22, v23, v24, v25, v26, .ref a27, .int (nI tp), .int fk, .int fp, .int so, .int (nI bg), .int (nI en), .long wd, .int (nI tk), .int sd, .int nb, .int np, v39, v40, v41, v42, v43, v44, v45, v46, v47, v48, v49, v50, v51])), (a27, .inl (cB, 4000, .inl f))] (fun r9 w9 => ∃ z : Int32, ∃ so9 : Int32, ∃ bg9 : Nat, ∃ en9 : Nat, ∃ wd9 : Int64, ∃ tk9 : Nat, ∃ fk9 : Int32, ∃ fp9 : Int32, ∃ sd9 : Int32, ∃ nb9 : Int32, ∃ np9 : Int32, (z = 0 ∨ (z = 1 ∧ tk < tk9 ∧ (fk9 = 0 → fk = 0))) ∧ (tk ≤ tk9 ∧ tk9 ≤ 501) ∧ (gTk f so9 bg9 en9 tp) ∧ r9 = z ∧ w9 = [(h0, .inr (9, [v0, v1, v2, v3, v4, v5, v6, v7, v8, v9, v10, v11, v12, v13, v14, v15, v16, v17, v18, v19, v20, v21, v22, v23, v24, v25, v26, .ref a27, .int (nI tp), .int fk9, .int fp9, .int so9, .int (nI bg9), .int (nI en9), .long wd9, .int (nI tk9), .int sd9, .int nb9, .int np9, v39, v40, v41, v42, v43, v44, v45, v46, v47, v48, v49, v50, v51])), (a27, .inl (cB, 4000, .inl f))]) := by
  refine gMi.of (cc := cX9_integer) (maxL := 2) (ret := (some .boolean)) (by decide) rfl (Nat.le_of_ble_eq_true rfl) (fun p e s m below meth c A ls hx hb hr hlk hml hts hown hin hA hP hK hD hS hN hl => ?_)
  have hown : s.vm.findClass RX9 = some m.cls := hown
  have hl : lv_has ls 2 [(0, .ref h0)] := hl
  have hT1 := gTk_le hT
  refine lv_iconst (v := 1) hx hb dX9_integer_0 (by decide) ?_
  refine lv_istore_n (lv' := [(1, .int 1), (0, .ref h0)]) hx hb dX9_integer_1 rfl hl (by decide) rfl (fun ls hl => ?_)
  refine lv_aload_n hx hb dX9_integer_2 rfl (lv_at hl 1 rfl) ?_
  refine va_get (D := D) (ci := 9) (v := .int so) (C := RX9) (T := TX9) (N := 52) hx hb hts (fun _ h => List.mem_cons_of_mem _ (List.mem_append_left _ (List.mem_append_right _ h))) hown hK hP 0 rfl rfl 31 (by decide) (hts (.fieldLink RX9 137 "LitmusHallModel" "sort" "I") (by decide +kernel)) (fun _ h9 => h9) rfl dX9_integer_3 ?_
  refine lv_iconst (v := 3) hx hb dX9_integer_6 (by decide) ?_
  refine lv_icmp_ne (tgt := 32) hx hb dX9_integer_7 (by decide) (fun c_1 => ?_) (fun c_1 => ?_)
  · refine lv_aload_n hx hb dX9_integer_32 rfl (lv_at hl 1 rfl) ?_
    refine gx_goi (wc := [(h0, .inr (9, [v0, v1, v2, v3, v4, v5, v6, v7, v8, v9, v10, v11, v12, v13, v14, v15, v16, v17, v18, v19, v20, v21, v22, v23, v24, v25, v26, .ref a27, .int (nI tp), .int fk, .int fp, .int so, .int (nI bg), .int (nI en), .long wd, .int (nI tk), .int sd, .int nb, .int np, v39, v40, v41, v42, v43, v44, v45, v46, v47, v48, v49, v50, v51])), (a27, .inl (cB, 4000, .inl f))]) (wr := []) (va_runV (As := []) (rest := []) ⟨hx, hb, hml, hown, hts⟩ (c_whole9 l D cI cB cZ h0 a27 tp f (v0) (v1) (v2) (v3) (v4) (v5) (v6) (v7) (v8) (v9) (v10) (v11) (v12) (v13) (v14) (v15) (v16) (v17) (v18) (v19) (v20) (v21) (v22) (v23) (v24) (v25) (v26) (v39) (v40) (v41) (v42) (v43) (v44) (v45) (v46) (v47) (v48) (v49) (v50) (v51) so bg en wd tk fk fp sd nb np (by omega) (by omega) (by first | exact hT5 | exact hT) _) (cwV 0 hts gP_c_integer9__c_whole9 rfl rfl rfl (by decide +kernel) ⟨Nat.le_of_ble_eq_true rfl, Nat.le_of_ble_eq_true rfl⟩) (gx_preV (ci := 9) (q0 := 0) hK gN.nil hP hD [0, 1] rfl rfl rfl rfl) rfl rfl hl.1 rfl (lv_room (Nat.le_of_ble_eq_true rfl)) dX9_integer_33 ⟨Nat.le_of_ble_eq_true rfl, Nat.le_of_ble_eq_true rfl⟩) hP hD hS hA [0, 1] [] rfl rfl rfl (by decide) (fun r1 w1 H locs hp hP hD hS => ?_)
    obtain ⟨e_2, e_3, e_4, e_5, e_6, e_7, e_8, e_9, e_10, e_11, e_12, hq_13, hq_14, hq_15, hq_16, h9, rfl⟩ := hp
    have h9 := h9.symm
    subst h9
    have hq_13 : e_2 = 0 ∨ (e_2 = 1 ∧ tk < e_7 ∧ (e_8 = 0 → fk = 0)) := hq_13
    have hq_14 : tk ≤ e_7 ∧ e_7 ≤ 501 := hq_14
    have hq_15 : gTk f e_3 e_4 e_5 tp := hq_15
    have hq_16 : e_2 = 1 → ∃ m9 c9, m9 ≤ 999 ∧ e_11 = nI m9 ∧ c9 ≤ 4000 ∧ e_12 = nI c9 := hq_16
    have hP : va_P D vwCl [(h0, .inr (9, [v0, v1, v2, v3, v4, v5, v6, v7, v8, v9, v10, v11, v12, v13, v14, v15, v16, v17, v18, v19, v20, v21, v22, v23, v24, v25, v26, .ref a27, .int (nI tp), .int e_8, .int e_9, .int e_3, .int (nI e_4), .int (nI e_5), .long e_6, .int (nI e_7), .int e_10, .int e_11, .int e_12, v39, v40, v41, v42, v43, v44, v45, v46, v47, v48, v49, v50, v51])), (a27, .inl (cB, 4000, .inl f))] H := hP
    have hD : va_D A [(h0, .inr (9, [v0, v1, v2, v3, v4, v5, v6, v7, v8, v9, v10, v11, v12, v13, v14, v15, v16, v17, v18, v19, v20, v21, v22, v23, v24, v25, v26, .ref a27, .int (nI tp), .int e_8, .int e_9, .int e_3, .int (nI e_4), .int (nI e_5), .long e_6, .int (nI e_7), .int e_10, .int e_11, .int e_12, v39, v40, v41, v42, v43, v44, v45, v46, v47, v48, v49, v50, v51])), (a27, .inl (cB, 4000, .inl f))] := hD
    have hp0 := hq_13
    have hp2 := hq_15
    refine lv_if_ne (tgt := 41) hx hb dX9_integer_36 (by decide) (fun c_17 => ?_) (fun c_17 => ?_)
    · have hq0 := (hp0.resolve_left c_17).2
      refine lv_aload_n hx hb dX9_integer_41 rfl (lv_at hl 1 rfl) ?_
      refine lv_iload_n hx hb dX9_integer_42 rfl (lv_at hl 0 rfl) ?_
      refine lv_aload_n hx hb dX9_integer_43 rfl (lv_at hl 1 rfl) ?_
      refine va_get (D := D) (ci := 9) (v := .int e_11) (C := RX9) (T := TX9) (N := 52) hx hb hts (fun _ h => List.mem_cons_of_mem _ (List.mem_append_left _ (List.mem_append_right _ h))) hown hK hP 0 rfl rfl 37 (by decide) (hts (.fieldLink RX9 175 "LitmusHallModel" "number" "I") (by decide +kernel)) (fun _ h9 => h9) rfl dX9_integer_44 ?_
      refine lv_imul hx hb dX9_integer_47 ?_
      refine gx_gen (fun z_18 => ?_)
      refine va_put (D := D) (ci := 9) (v := .int z_18) (ty := .int) (C := RX9) (T := TX9) (N := 52) hx hb hts (fun _ h => List.mem_cons_of_mem _ (List.mem_append_left _ (List.mem_append_right _ h))) tyX9 tyX9_ok nmX9 hown hK hP hD hS 0 rfl rfl 37 (by decide) (hts (.fieldLink RX9 175 "LitmusHallModel" "number" "I") (by decide +kernel)) (fun _ h9 => h9) rfl (by decide +kernel) rfl rfl (Nat.le_of_ble_eq_true rfl) dX9_integer_48 (fun H locs hP hD hS => ?_)
      have hP : va_P D vwCl [(h0, .inr (9, [v0, v1, v2, v3, v4, v5, v6, v7, v8, v9, v10, v11, v12, v13, v14, v15, v16, v17, v18, v19, v20, v21, v22, v23, v24, v25, v26, .ref a27, .int (nI tp), .int e_8, .int e_9, .int e_3, .int (nI e_4), .int (nI e_5), .long e_6, .int (nI e_7), .int e_10, .int z_18, .int e_12, v39, v40, v41, v42, v43, v44, v45, v46, v47, v48, v49, v50, v51])), (a27, .inl (cB, 4000, .inl f))] H := hP
      have hD : va_D A [(h0, .inr (9, [v0, v1, v2, v3, v4, v5, v6, v7, v8, v9, v10, v11, v12, v13, v14, v15, v16, v17, v18, v19, v20, v21, v22, v23, v24, v25, v26, .ref a27, .int (nI tp), .int e_8, .int e_9, .int e_3, .int (nI e_4), .int (nI e_5), .long e_6, .int (nI e_7), .int e_10, .int z_18, .int e_12, v39, v40, v41, v42, v43, v44, v45, v46, v47, v48, v49, v50, v51])), (a27, .inl (cB, 4000, .inl f))] := hD
      refine lv_iconst (v := 1) hx hb dX9_integer_51 (by decide) ?_
      exact gx_zret (w' := [(h0, .inr (9, [v0, v1, v2, v3, v4, v5, v6, v7, v8, v9, v10, v11, v12, v13, v14, v15, v16, v17, v18, v19, v20, v21, v22, v23, v24, v25, v26, .ref a27, .int (nI tp), .int e_8, .int e_9, .int e_3, .int (nI e_4), .int (nI e_5), .long e_6, .int (nI e_7), .int e_10, .int z_18, .int e_12, v39, v40, v41, v42, v43, v44, v45, v46, v47, v48, v49, v50, v51])), (a27, .inl (cB, 4000, .inl f))]) hx hb hr hlk hK hP hD hS (Nat.le_of_ble_eq_true rfl) (Nat.le_of_ble_eq_true rfl) dX9_integer_52 rfl ⟨1, e_3, e_4, e_5, e_6, e_7, e_8, e_9, e_10, z_18, e_12, (by first | exact Or.inr ⟨rfl, by omega, fun h => (hp5.resolve_left (by assumption)).2.2 (hq0.2 h)⟩ | exact Or.inr ⟨rfl, by omega, hq0.2⟩), (by omega), hp2, rfl, rfl⟩
    · refine lv_iconst (v := 0) hx hb dX9_integer_39 (by decide) ?_
      exact gx_zret (w' := [(h0, .inr (9, [v0, v1, v2, v3, v4, v5, v6, v7, v8, v9, v10, v11, v12, v13, v14, v15, v16, v17, v18, v19, v20, v21, v22, v23, v24, v25, v26, .ref a27, .int (nI tp), .int e_8, .int e_9, .int e_3, .int (nI e_4), .int (nI e_5), .long e_6, .int (nI e_7), .int e_10, .int e_11, .int e_12, v39, v40, v41, v42, v43, v44, v45, v46, v47, v48, v49, v50, v51])), (a27, .inl (cB, 4000, .inl f))]) hx hb hr hlk hK hP hD hS (Nat.le_of_ble_eq_true rfl) (Nat.le_of_ble_eq_true rfl) dX9_integer_40 rfl ⟨0, e_3, e_4, e_5, e_6, e_7, e_8, e_9, e_10, e_11, e_12, (Or.inl rfl), (by omega), hp2, rfl, rfl⟩
  · refine lv_aload_n hx hb dX9_integer_10 rfl (lv_at hl 1 rfl) ?_
    refine va_get (D := D) (ci := 9) (v := .long wd) (C := RX9) (T := TX9) (N := 52) hx hb hts (fun _ h => List.mem_cons_of_mem _ (List.mem_append_left _ (List.mem_append_right _ h))) hown hK hP 0 rfl rfl 34 (by decide) (hts (.fieldLink RX9 133 "LitmusHallModel" "word" "J") (by decide +kernel)) (fun _ h9 => h9) rfl dX9_integer_11 ?_
    refine lv_ldc2 hx hb hown (hts (.constantLong RX9 178 (45)) (by decide +kernel)) dX9_integer_14 ?_
    refine W.lcmp hx hb dX9_integer_17 ?_
    refine gx_gen (fun z_19 => ?_)
    refine lv_if_ne (tgt := 32) hx hb dX9_integer_18 (by decide) (fun c_20 => ?_) (fun c_20 => ?_)
    · refine lv_aload_n hx hb dX9_integer_32 rfl (lv_at hl 1 rfl) ?_
      refine gx_goi (wc := [(h0, .inr (9, [v0, v1, v2, v3, v4, v5, v6, v7, v8, v9, v10, v11, v12, v13, v14, v15, v16, v17, v18, v19, v20, v21, v22, v23, v24, v25, v26, .ref a27, .int (nI tp), .int fk, .int fp, .int so, .int (nI bg), .int (nI en), .long wd, .int (nI tk), .int sd, .int nb, .int np, v39, v40, v41, v42, v43, v44, v45, v46, v47, v48, v49, v50, v51])), (a27, .inl (cB, 4000, .inl f))]) (wr := []) (va_runV (As := []) (rest := []) ⟨hx, hb, hml, hown, hts⟩ (c_whole9 l D cI cB cZ h0 a27 tp f (v0) (v1) (v2) (v3) (v4) (v5) (v6) (v7) (v8) (v9) (v10) (v11) (v12) (v13) (v14) (v15) (v16) (v17) (v18) (v19) (v20) (v21) (v22) (v23) (v24) (v25) (v26) (v39) (v40) (v41) (v42) (v43) (v44) (v45) (v46) (v47) (v48) (v49) (v50) (v51) so bg en wd tk fk fp sd nb np (by omega) (by omega) (by first | exact hT5 | exact hT) _) (cwV 0 hts gP_c_integer9__c_whole9 rfl rfl rfl (by decide +kernel) ⟨Nat.le_of_ble_eq_true rfl, Nat.le_of_ble_eq_true rfl⟩) (gx_preV (ci := 9) (q0 := 0) hK gN.nil hP hD [0, 1] rfl rfl rfl rfl) rfl rfl hl.1 rfl (lv_room (Nat.le_of_ble_eq_true rfl)) dX9_integer_33 ⟨Nat.le_of_ble_eq_true rfl, Nat.le_of_ble_eq_true rfl⟩) hP hD hS hA [0, 1] [] rfl rfl rfl (by decide) (fun r1 w1 H locs hp hP hD hS => ?_)
      obtain ⟨e_21, e_22, e_23, e_24, e_25, e_26, e_27, e_28, e_29, e_30, e_31, hq_32, hq_33, hq_34, hq_35, h9, rfl⟩ := hp
      have h9 := h9.symm
      subst h9
      have hq_32 : e_21 = 0 ∨ (e_21 = 1 ∧ tk < e_26 ∧ (e_27 = 0 → fk = 0)) := hq_32
      have hq_33 : tk ≤ e_26 ∧ e_26 ≤ 501 := hq_33
      have hq_34 : gTk f e_22 e_23 e_24 tp := hq_34
      have hq_35 : e_21 = 1 → ∃ m9 c9, m9 ≤ 999 ∧ e_30 = nI m9 ∧ c9 ≤ 4000 ∧ e_31 = nI c9 := hq_35
      have hP : va_P D vwCl [(h0, .inr (9, [v0, v1, v2, v3, v4, v5, v6, v7, v8, v9, v10, v11, v12, v13, v14, v15, v16, v17, v18, v19, v20, v21, v22, v23, v24, v25, v26, .ref a27, .int (nI tp), .int e_27, .int e_28, .int e_22, .int (nI e_23), .int (nI e_24), .long e_25, .int (nI e_26), .int e_29, .int e_30, .int e_31, v39, v40, v41, v42, v43, v44, v45, v46, v47, v48, v49, v50, v51])), (a27, .inl (cB, 4000, .inl f))] H := hP
      have hD : va_D A [(h0, .inr (9, [v0, v1, v2, v3, v4, v5, v6, v7, v8, v9, v10, v11, v12, v13, v14, v15, v16, v17, v18, v19, v20, v21, v22, v23, v24, v25, v26, .ref a27, .int (nI tp), .int e_27, .int e_28, .int e_22, .int (nI e_23), .int (nI e_24), .long e_25, .int (nI e_26), .int e_29, .int e_30, .int e_31, v39, v40, v41, v42, v43, v44, v45, v46, v47, v48, v49, v50, v51])), (a27, .inl (cB, 4000, .inl f))] := hD
      have hp0 := hq_32
      have hp2 := hq_34
      refine lv_if_ne (tgt := 41) hx hb dX9_integer_36 (by decide) (fun c_36 => ?_) (fun c_36 => ?_)
      · have hq0 := (hp0.resolve_left c_36).2
        refine lv_aload_n hx hb dX9_integer_41 rfl (lv_at hl 1 rfl) ?_
        refine lv_iload_n hx hb dX9_integer_42 rfl (lv_at hl 0 rfl) ?_
        refine lv_aload_n hx hb dX9_integer_43 rfl (lv_at hl 1 rfl) ?_
        refine va_get (D := D) (ci := 9) (v := .int e_30) (C := RX9) (T := TX9) (N := 52) hx hb hts (fun _ h => List.mem_cons_of_mem _ (List.mem_append_left _ (List.mem_append_right _ h))) hown hK hP 0 rfl rfl 37 (by decide) (hts (.fieldLink RX9 175 "LitmusHallModel" "number" "I") (by decide +kernel)) (fun _ h9 => h9) rfl dX9_integer_44 ?_
        refine lv_imul hx hb dX9_integer_47 ?_
        refine gx_gen (fun z_37 => ?_)
        refine va_put (D := D) (ci := 9) (v := .int z_37) (ty := .int) (C := RX9) (T := TX9) (N := 52) hx hb hts (fun _ h => List.mem_cons_of_mem _ (List.mem_append_left _ (List.mem_append_right _ h))) tyX9 tyX9_ok nmX9 hown hK hP hD hS 0 rfl rfl 37 (by decide) (hts (.fieldLink RX9 175 "LitmusHallModel" "number" "I") (by decide +kernel)) (fun _ h9 => h9) rfl (by decide +kernel) rfl rfl (Nat.le_of_ble_eq_true rfl) dX9_integer_48 (fun H locs hP hD hS => ?_)
        have hP : va_P D vwCl [(h0, .inr (9, [v0, v1, v2, v3, v4, v5, v6, v7, v8, v9, v10, v11, v12, v13, v14, v15, v16, v17, v18, v19, v20, v21, v22, v23, v24, v25, v26, .ref a27, .int (nI tp), .int e_27, .int e_28, .int e_22, .int (nI e_23), .int (nI e_24), .long e_25, .int (nI e_26), .int e_29, .int z_37, .int e_31, v39, v40, v41, v42, v43, v44, v45, v46, v47, v48, v49, v50, v51])), (a27, .inl (cB, 4000, .inl f))] H := hP
        have hD : va_D A [(h0, .inr (9, [v0, v1, v2, v3, v4, v5, v6, v7, v8, v9, v10, v11, v12, v13, v14, v15, v16, v17, v18, v19, v20, v21, v22, v23, v24, v25, v26, .ref a27, .int (nI tp), .int e_27, .int e_28, .int e_22, .int (nI e_23), .int (nI e_24), .long e_25, .int (nI e_26), .int e_29, .int z_37, .int e_31, v39, v40, v41, v42, v43, v44, v45, v46, v47, v48, v49, v50, v51])), (a27, .inl (cB, 4000, .inl f))] := hD
        refine lv_iconst (v := 1) hx hb dX9_integer_51 (by decide) ?_
        exact gx_zret (w' := [(h0, .inr (9, [v0, v1, v2, v3, v4, v5, v6, v7, v8, v9, v10, v11, v12, v13, v14, v15, v16, v17, v18, v19, v20, v21, v22, v23, v24, v25, v26, .ref a27, .int (nI tp), .int e_27, .int e_28, .int e_22, .int (nI e_23), .int (nI e_24), .long e_25, .int (nI e_26), .int e_29, .int z_37, .int e_31, v39, v40, v41, v42, v43, v44, v45, v46, v47, v48, v49, v50, v51])), (a27, .inl (cB, 4000, .inl f))]) hx hb hr hlk hK hP hD hS (Nat.le_of_ble_eq_true rfl) (Nat.le_of_ble_eq_true rfl) dX9_integer_52 rfl ⟨1, e_22, e_23, e_24, e_25, e_26, e_27, e_28, e_29, z_37, e_31, (by first | exact Or.inr ⟨rfl, by omega, fun h => (hp5.resolve_left (by assumption)).2.2 (hq0.2 h)⟩ | exact Or.inr ⟨rfl, by omega, hq0.2⟩), (by omega), hp2, rfl, rfl⟩
      · refine lv_iconst (v := 0) hx hb dX9_integer_39 (by decide) ?_
        exact gx_zret (w' := [(h0, .inr (9, [v0, v1, v2, v3, v4, v5, v6, v7, v8, v9, v10, v11, v12, v13, v14, v15, v16, v17, v18, v19, v20, v21, v22, v23, v24, v25, v26, .ref a27, .int (nI tp), .int e_27, .int e_28, .int e_22, .int (nI e_23), .int (nI e_24), .long e_25, .int (nI e_26), .int e_29, .int e_30, .int e_31, v39, v40, v41, v42, v43, v44, v45, v46, v47, v48, v49, v50, v51])), (a27, .inl (cB, 4000, .inl f))]) hx hb hr hlk hK hP hD hS (Nat.le_of_ble_eq_true rfl) (Nat.le_of_ble_eq_true rfl) dX9_integer_40 rfl ⟨0, e_22, e_23, e_24, e_25, e_26, e_27, e_28, e_29, e_30, e_31, (Or.inl rfl), (by omega), hp2, rfl, rfl⟩
    · refine lv_iconst (v := (-1)) hx hb dX9_integer_21 (by decide) ?_
      refine lv_istore_n (lv' := [(1, .int (-1)), (0, .ref h0)]) hx hb dX9_integer_22 rfl hl (by decide) rfl (fun ls hl => ?_)
      refine lv_aload_n hx hb dX9_integer_23 rfl (lv_at hl 1 rfl) ?_
      refine gx_goi (wc := [(h0, .inr (9, [v0, v1, v2, v3, v4, v5, v6, v7, v8, v9, v10, v11, v12, v13, v14, v15, v16, v17, v18, v19, v20, v21, v22, v23, v24, v25, v26, .ref a27, .int (nI tp), .int fk, .int fp, .int so, .int (nI bg), .int (nI en), .long wd, .int (nI tk), .int sd, .int nb, .int np, v39, v40, v41, v42, v43, v44, v45, v46, v47, v48, v49, v50, v51])), (a27, .inl (cB, 4000, .inl f))]) (wr := []) (va_runV (As := []) (rest := []) ⟨hx, hb, hml, hown, hts⟩ (c_pass9 l D cI cB cZ h0 a27 tp f (v0) (v1) (v2) (v3) (v4) (v5) (v6) (v7) (v8) (v9) (v10) (v11) (v12) (v13) (v14) (v15) (v16) (v17) (v18) (v19) (v20) (v21) (v22) (v23) (v24) (v25) (v26) (.int nb) (.int np) (v39) (v40) (v41) (v42) (v43) (v44) (v45) (v46) (v47) (v48) (v49) (v50) (v51) so bg en wd tk fk fp sd (by omega) (by omega) hT _) (cwV 0 hts gP_c_integer9__c_pass9 rfl rfl rfl (by decide +kernel) ⟨Nat.le_of_ble_eq_true rfl, Nat.le_of_ble_eq_true rfl⟩) (gx_preV (ci := 9) (q0 := 0) hK gN.nil hP hD [0, 1] rfl rfl rfl rfl) rfl rfl hl.1 rfl (lv_room (Nat.le_of_ble_eq_true rfl)) dX9_integer_24 ⟨Nat.le_of_ble_eq_true rfl, Nat.le_of_ble_eq_true rfl⟩) hP hD hS hA [0, 1] [] rfl rfl rfl (by decide) (fun r1 w1 H locs hp hP hD hS => ?_)
      obtain ⟨e_38, so5, bg5, en5, wd5, tk5, e_39, e_40, e_41, hq_42, hq_43, hq_44, h9, rfl⟩ := hp
      have h9 := h9.symm
      subst h9
      have hq_42 : e_38 = 0 ∨ (e_38 = 1 ∧ tk < tk5 ∧ (e_39 = 0 → fk = 0)) := hq_42
      have hq_43 : tk ≤ tk5 ∧ tk5 ≤ 501 := hq_43
      have hq_44 : gTk f so5 bg5 en5 tp := hq_44
      have hP : va_P D vwCl [(h0, .inr (9, [v0, v1, v2, v3, v4, v5, v6, v7, v8, v9, v10, v11, v12, v13, v14, v15, v16, v17, v18, v19, v20, v21, v22, v23, v24, v25, v26, .ref a27, .int (nI tp), .int e_39, .int e_40, .int so5, .int (nI bg5), .int (nI en5), .long wd5, .int (nI tk5), .int e_41, .int nb, .int np, v39, v40, v41, v42, v43, v44, v45, v46, v47, v48, v49, v50, v51])), (a27, .inl (cB, 4000, .inl f))] H := hP
      have hD : va_D A [(h0, .inr (9, [v0, v1, v2, v3, v4, v5, v6, v7, v8, v9, v10, v11, v12, v13, v14, v15, v16, v17, v18, v19, v20, v21, v22, v23, v24, v25, v26, .ref a27, .int (nI tp), .int e_39, .int e_40, .int so5, .int (nI bg5), .int (nI en5), .long wd5, .int (nI tk5), .int e_41, .int nb, .int np, v39, v40, v41, v42, v43, v44, v45, v46, v47, v48, v49, v50, v51])), (a27, .inl (cB, 4000, .inl f))] := hD
      have hp5 := hq_42
      have hT5 := hq_44
      refine lv_if_ne (tgt := 32) hx hb dX9_integer_27 (by decide) (fun c_45 => ?_) (fun c_45 => ?_)
      · refine lv_aload_n hx hb dX9_integer_32 rfl (lv_at hl 1 rfl) ?_
        refine gx_goi (wc := [(h0, .inr (9, [v0, v1, v2, v3, v4, v5, v6, v7, v8, v9, v10, v11, v12, v13, v14, v15, v16, v17, v18, v19, v20, v21, v22, v23, v24, v25, v26, .ref a27, .int (nI tp), .int e_39, .int e_40, .int so5, .int (nI bg5), .int (nI en5), .long wd5, .int (nI tk5), .int e_41, .int nb, .int np, v39, v40, v41, v42, v43, v44, v45, v46, v47, v48, v49, v50, v51])), (a27, .inl (cB, 4000, .inl f))]) (wr := []) (va_runV (As := []) (rest := []) ⟨hx, hb, hml, hown, hts⟩ (c_whole9 l D cI cB cZ h0 a27 tp f (v0) (v1) (v2) (v3) (v4) (v5) (v6) (v7) (v8) (v9) (v10) (v11) (v12) (v13) (v14) (v15) (v16) (v17) (v18) (v19) (v20) (v21) (v22) (v23) (v24) (v25) (v26) (v39) (v40) (v41) (v42) (v43) (v44) (v45) (v46) (v47) (v48) (v49) (v50) (v51) so5 bg5 en5 wd5 tk5 e_39 e_40 e_41 nb np (by omega) (by omega) (by first | exact hT5 | exact hT) _) (cwV 0 hts gP_c_integer9__c_whole9 rfl rfl rfl (by decide +kernel) ⟨Nat.le_of_ble_eq_true rfl, Nat.le_of_ble_eq_true rfl⟩) (gx_preV (ci := 9) (q0 := 0) hK gN.nil hP hD [0, 1] rfl rfl rfl rfl) rfl rfl hl.1 rfl (lv_room (Nat.le_of_ble_eq_true rfl)) dX9_integer_33 ⟨Nat.le_of_ble_eq_true rfl, Nat.le_of_ble_eq_true rfl⟩) hP hD hS hA [0, 1] [] rfl rfl rfl (by decide) (fun r1 w1 H locs hp hP hD hS => ?_)
        obtain ⟨e_46, e_47, e_48, e_49, e_50, e_51, e_52, e_53, e_54, e_55, e_56, hq_57, hq_58, hq_59, hq_60, h9, rfl⟩ := hp
        have h9 := h9.symm
        subst h9
        have hq_57 : e_46 = 0 ∨ (e_46 = 1 ∧ tk5 < e_51 ∧ (e_52 = 0 → e_39 = 0)) := hq_57
        have hq_58 : tk5 ≤ e_51 ∧ e_51 ≤ 501 := hq_58
        have hq_59 : gTk f e_47 e_48 e_49 tp := hq_59
        have hq_60 : e_46 = 1 → ∃ m9 c9, m9 ≤ 999 ∧ e_55 = nI m9 ∧ c9 ≤ 4000 ∧ e_56 = nI c9 := hq_60
        have hP : va_P D vwCl [(h0, .inr (9, [v0, v1, v2, v3, v4, v5, v6, v7, v8, v9, v10, v11, v12, v13, v14, v15, v16, v17, v18, v19, v20, v21, v22, v23, v24, v25, v26, .ref a27, .int (nI tp), .int e_52, .int e_53, .int e_47, .int (nI e_48), .int (nI e_49), .long e_50, .int (nI e_51), .int e_54, .int e_55, .int e_56, v39, v40, v41, v42, v43, v44, v45, v46, v47, v48, v49, v50, v51])), (a27, .inl (cB, 4000, .inl f))] H := hP
        have hD : va_D A [(h0, .inr (9, [v0, v1, v2, v3, v4, v5, v6, v7, v8, v9, v10, v11, v12, v13, v14, v15, v16, v17, v18, v19, v20, v21, v22, v23, v24, v25, v26, .ref a27, .int (nI tp), .int e_52, .int e_53, .int e_47, .int (nI e_48), .int (nI e_49), .long e_50, .int (nI e_51), .int e_54, .int e_55, .int e_56, v39, v40, v41, v42, v43, v44, v45, v46, v47, v48, v49, v50, v51])), (a27, .inl (cB, 4000, .inl f))] := hD
        have hp0 := hq_57
        have hp2 := hq_59
        refine lv_if_ne (tgt := 41) hx hb dX9_integer_36 (by decide) (fun c_61 => ?_) (fun c_61 => ?_)
        · have hq0 := (hp0.resolve_left c_61).2
          refine lv_aload_n hx hb dX9_integer_41 rfl (lv_at hl 1 rfl) ?_
          refine lv_iload_n hx hb dX9_integer_42 rfl (lv_at hl 0 rfl) ?_
          refine lv_aload_n hx hb dX9_integer_43 rfl (lv_at hl 1 rfl) ?_
          refine va_get (D := D) (ci := 9) (v := .int e_55) (C := RX9) (T := TX9) (N := 52) hx hb hts (fun _ h => List.mem_cons_of_mem _ (List.mem_append_left _ (List.mem_append_right _ h))) hown hK hP 0 rfl rfl 37 (by decide) (hts (.fieldLink RX9 175 "LitmusHallModel" "number" "I") (by decide +kernel)) (fun _ h9 => h9) rfl dX9_integer_44 ?_
          refine lv_imul hx hb dX9_integer_47 ?_
          refine gx_gen (fun z_62 => ?_)
          refine va_put (D := D) (ci := 9) (v := .int z_62) (ty := .int) (C := RX9) (T := TX9) (N := 52) hx hb hts (fun _ h => List.mem_cons_of_mem _ (List.mem_append_left _ (List.mem_append_right _ h))) tyX9 tyX9_ok nmX9 hown hK hP hD hS 0 rfl rfl 37 (by decide) (hts (.fieldLink RX9 175 "LitmusHallModel" "number" "I") (by decide +kernel)) (fun _ h9 => h9) rfl (by decide +kernel) rfl rfl (Nat.le_of_ble_eq_true rfl) dX9_integer_48 (fun H locs hP hD hS => ?_)
          have hP : va_P D vwCl [(h0, .inr (9, [v0, v1, v2, v3, v4, v5, v6, v7, v8, v9, v10, v11, v12, v13, v14, v15, v16, v17, v18, v19, v20, v21, v22, v23, v24, v25, v26, .ref a27, .int (nI tp), .int e_52, .int e_53, .int e_47, .int (nI e_48), .int (nI e_49), .long e_50, .int (nI e_51), .int e_54, .int z_62, .int e_56, v39, v40, v41, v42, v43, v44, v45, v46, v47, v48, v49, v50, v51])), (a27, .inl (cB, 4000, .inl f))] H := hP
          have hD : va_D A [(h0, .inr (9, [v0, v1, v2, v3, v4, v5, v6, v7, v8, v9, v10, v11, v12, v13, v14, v15, v16, v17, v18, v19, v20, v21, v22, v23, v24, v25, v26, .ref a27, .int (nI tp), .int e_52, .int e_53, .int e_47, .int (nI e_48), .int (nI e_49), .long e_50, .int (nI e_51), .int e_54, .int z_62, .int e_56, v39, v40, v41, v42, v43, v44, v45, v46, v47, v48, v49, v50, v51])), (a27, .inl (cB, 4000, .inl f))] := hD
          refine lv_iconst (v := 1) hx hb dX9_integer_51 (by decide) ?_
          exact gx_zret (w' := [(h0, .inr (9, [v0, v1, v2, v3, v4, v5, v6, v7, v8, v9, v10, v11, v12, v13, v14, v15, v16, v17, v18, v19, v20, v21, v22, v23, v24, v25, v26, .ref a27, .int (nI tp), .int e_52, .int e_53, .int e_47, .int (nI e_48), .int (nI e_49), .long e_50, .int (nI e_51), .int e_54, .int z_62, .int e_56, v39, v40, v41, v42, v43, v44, v45, v46, v47, v48, v49, v50, v51])), (a27, .inl (cB, 4000, .inl f))]) hx hb hr hlk hK hP hD hS (Nat.le_of_ble_eq_true rfl) (Nat.le_of_ble_eq_true rfl) dX9_integer_52 rfl ⟨1, e_47, e_48, e_49, e_50, e_51, e_52, e_53, e_54, z_62, e_56, (by first | exact Or.inr ⟨rfl, by omega, fun h => (hp5.resolve_left (by assumption)).2.2 (hq0.2 h)⟩ | exact Or.inr ⟨rfl, by omega, hq0.2⟩), (by omega), hp2, rfl, rfl⟩
        · refine lv_iconst (v := 0) hx hb dX9_integer_39 (by decide) ?_
          exact gx_zret (w' := [(h0, .inr (9, [v0, v1, v2, v3, v4, v5, v6, v7, v8, v9, v10, v11, v12, v13, v14, v15, v16, v17, v18, v19, v20, v21, v22, v23, v24, v25, v26, .ref a27, .int (nI tp), .int e_52, .int e_53, .int e_47, .int (nI e_48), .int (nI e_49), .long e_50, .int (nI e_51), .int e_54, .int e_55, .int e_56, v39, v40, v41, v42, v43, v44, v45, v46, v47, v48, v49, v50, v51])), (a27, .inl (cB, 4000, .inl f))]) hx hb hr hlk hK hP hD hS (Nat.le_of_ble_eq_true rfl) (Nat.le_of_ble_eq_true rfl) dX9_integer_40 rfl ⟨0, e_47, e_48, e_49, e_50, e_51, e_52, e_53, e_54, e_55, e_56, (Or.inl rfl), (by omega), hp2, rfl, rfl⟩
      · refine lv_iconst (v := 0) hx hb dX9_integer_30 (by decide) ?_
        exact gx_zret (w' := [(h0, .inr (9, [v0, v1, v2, v3, v4, v5, v6, v7, v8, v9, v10, v11, v12, v13, v14, v15, v16, v17, v18, v19, v20, v21, v22, v23, v24, v25, v26, .ref a27, .int (nI tp), .int e_39, .int e_40, .int so5, .int (nI bg5), .int (nI en5), .long wd5, .int (nI tk5), .int e_41, .int nb, .int np, v39, v40, v41, v42, v43, v44, v45, v46, v47, v48, v49, v50, v51])), (a27, .inl (cB, 4000, .inl f))]) hx hb hr hlk hK hP hD hS (Nat.le_of_ble_eq_true rfl) (Nat.le_of_ble_eq_true rfl) dX9_integer_31 rfl ⟨0, so5, bg5, en5, wd5, tk5, e_39, e_40, e_41, nb, np, (Or.inl rfl), (by omega), hT5, rfl, rfl⟩
