theorem dX1_keep_0 : decode cX1_keep 0 = .ok (.aload_n 0, 1) := by decide +kernel
theorem dX1_keep_1 : decode cX1_keep 1 = .ok (.aload_n 1, 1) := by decide +kernel
theorem dX1_keep_10 : decode cX1_keep 10 = .ok (.iand, 1) := by decide +kernel
theorem dX1_keep_11 : decode cX1_keep 11 = .ok (.istore 4, 2) := by decide +kernel
theorem dX1_keep_13 : decode cX1_keep 13 = .ok (.iconst 0, 1) := by decide +kernel
theorem dX1_keep_14 : decode cX1_keep 14 = .ok (.istore 5, 2) := by decide +kernel
theorem dX1_keep_16 : decode cX1_keep 16 = .ok (.iload 5, 2) := by decide +kernel
theorem dX1_keep_18 : decode cX1_keep 18 = .ok (.sipush 4096, 3) := by decide +kernel
theorem dX1_keep_2 : decode cX1_keep 2 = .ok (.invokevirtual 93, 3) := by decide +kernel
theorem dX1_keep_21 : decode cX1_keep 21 = .ok (.if_icmp .ge 72, 3) := by decide +kernel
theorem dX1_keep_24 : decode cX1_keep 24 = .ok (.aload_n 0, 1) := by decide +kernel
theorem dX1_keep_25 : decode cX1_keep 25 = .ok (.getfield 35, 3) := by decide +kernel
theorem dX1_keep_28 : decode cX1_keep 28 = .ok (.iload 4, 2) := by decide +kernel
theorem dX1_keep_30 : decode cX1_keep 30 = .ok (.iaload, 1) := by decide +kernel
theorem dX1_keep_31 : decode cX1_keep 31 = .ok (.istore 6, 2) := by decide +kernel
theorem dX1_keep_33 : decode cX1_keep 33 = .ok (.iload 6, 2) := by decide +kernel
theorem dX1_keep_35 : decode cX1_keep 35 = .ok (.ifCond .ne 13, 3) := by decide +kernel
theorem dX1_keep_38 : decode cX1_keep 38 = .ok (.aload_n 0, 1) := by decide +kernel
theorem dX1_keep_39 : decode cX1_keep 39 = .ok (.aload_n 1, 1) := by decide +kernel
theorem dX1_keep_40 : decode cX1_keep 40 = .ok (.iload_n 2, 1) := by decide +kernel
theorem dX1_keep_41 : decode cX1_keep 41 = .ok (.iload 4, 2) := by decide +kernel
theorem dX1_keep_43 : decode cX1_keep 43 = .ok (.iload_n 3, 1) := by decide +kernel
theorem dX1_keep_44 : decode cX1_keep 44 = .ok (.invokevirtual 97, 3) := by decide +kernel
theorem dX1_keep_47 : decode cX1_keep 47 = .ok (.ireturn, 1) := by decide +kernel
theorem dX1_keep_48 : decode cX1_keep 48 = .ok (.iload 6, 2) := by decide +kernel
theorem dX1_keep_5 : decode cX1_keep 5 = .ok (.istore_n 3, 1) := by decide +kernel
theorem dX1_keep_50 : decode cX1_keep 50 = .ok (.iload_n 3, 1) := by decide +kernel
theorem dX1_keep_51 : decode cX1_keep 51 = .ok (.ixor, 1) := by decide +kernel
theorem dX1_keep_52 : decode cX1_keep 52 = .ok (.sipush (-4096), 3) := by decide +kernel
theorem dX1_keep_55 : decode cX1_keep 55 = .ok (.iand, 1) := by decide +kernel
theorem dX1_keep_56 : decode cX1_keep 56 = .ok (.ifCond .ne 21, 3) := by decide +kernel
theorem dX1_keep_59 : decode cX1_keep 59 = .ok (.aload_n 0, 1) := by decide +kernel
theorem dX1_keep_6 : decode cX1_keep 6 = .ok (.iload_n 3, 1) := by decide +kernel
theorem dX1_keep_60 : decode cX1_keep 60 = .ok (.iload 6, 2) := by decide +kernel
theorem dX1_keep_62 : decode cX1_keep 62 = .ok (.sipush 4095, 3) := by decide +kernel
theorem dX1_keep_65 : decode cX1_keep 65 = .ok (.iand, 1) := by decide +kernel
theorem dX1_keep_66 : decode cX1_keep 66 = .ok (.iconst 1, 1) := by decide +kernel
theorem dX1_keep_67 : decode cX1_keep 67 = .ok (.isub, 1) := by decide +kernel
theorem dX1_keep_68 : decode cX1_keep 68 = .ok (.aload_n 1, 1) := by decide +kernel
theorem dX1_keep_69 : decode cX1_keep 69 = .ok (.invokevirtual 101, 3) := by decide +kernel
theorem dX1_keep_7 : decode cX1_keep 7 = .ok (.sipush 4095, 3) := by decide +kernel
theorem dX1_keep_72 : decode cX1_keep 72 = .ok (.ifCond .eq 5, 3) := by decide +kernel
theorem dX1_keep_75 : decode cX1_keep 75 = .ok (.iconst 1, 1) := by decide +kernel
theorem dX1_keep_76 : decode cX1_keep 76 = .ok (.ireturn, 1) := by decide +kernel
theorem dX1_keep_77 : decode cX1_keep 77 = .ok (.iload 4, 2) := by decide +kernel
theorem dX1_keep_79 : decode cX1_keep 79 = .ok (.iconst 1, 1) := by decide +kernel
theorem dX1_keep_80 : decode cX1_keep 80 = .ok (.iadd, 1) := by decide +kernel
theorem dX1_keep_81 : decode cX1_keep 81 = .ok (.sipush 4095, 3) := by decide +kernel
theorem dX1_keep_84 : decode cX1_keep 84 = .ok (.iand, 1) := by decide +kernel
theorem dX1_keep_85 : decode cX1_keep 85 = .ok (.istore 4, 2) := by decide +kernel
theorem dX1_keep_87 : decode cX1_keep 87 = .ok (.iinc 5 1, 3) := by decide +kernel
theorem dX1_keep_90 : decode cX1_keep 90 = .ok (.goto (-74), 3) := by decide +kernel
theorem dX1_keep_93 : decode cX1_keep 93 = .ok (.iconst 0, 1) := by decide +kernel
theorem dX1_keep_94 : decode cX1_keep 94 = .ok (.ireturn, 1) := by decide +kernel
def wsP_c_keep : List Cond := .code yX1_keep cX1_keep 7 (some .boolean) :: (([.methodLink RX1 93 yX1_hashOf, .instanceMethod yX1_hashOf, .selects RX1 yX1_hashOf yX1_hashOf, .initialized RX1, .fieldLink RX1 35 "LitmusHall$Explorer" "slots" "[I", .methodLink RX1 101 yX1_isSame, .instanceMethod yX1_isSame, .selects RX1 yX1_isSame yX1_isSame, .methodLink RX1 97 yX1_add, .instanceMethod yX1_add, .selects RX1 yX1_add yX1_add] ++ wsX10) ++ (wsP_c_hashOf ++ (wsP_c_xSame ++ (wsP_c_add ++ []))))
theorem gW_c_keep : wsP_c_keep.all goodWord = true := by unfold wsP_c_keep; exact gw_mk (by decide +kernel) (gw_app gW_c_hashOf (gw_app gW_c_xSame (gw_app gW_c_add rfl)))
set_option maxRecDepth 20000 in
theorem gP_c_keep__c_hashOf : GoodIn wsP_c_keep (wsV RX1 93 RX1 yX1_hashOf wsP_c_hashOf) := gw_in (pre := [.methodLink RX1 93 yX1_hashOf, .instanceMethod yX1_hashOf, .selects RX1 yX1_hashOf yX1_hashOf, .initialized RX1]) (by decide +kernel) (fun _ h => List.mem_cons_of_mem _ (List.mem_append_right _ (List.mem_append_left _ h))) gW_c_hashOf
set_option maxRecDepth 20000 in
theorem gP_c_keep__c_xSame : GoodIn wsP_c_keep (wsV RX1 101 RX1 yX1_isSame wsP_c_xSame) := gw_in (pre := [.methodLink RX1 101 yX1_isSame, .instanceMethod yX1_isSame, .selects RX1 yX1_isSame yX1_isSame, .initialized RX1]) (by decide +kernel) (fun _ h => List.mem_cons_of_mem _ (List.mem_append_right _ (List.mem_append_right _ (List.mem_append_left _ h)))) gW_c_xSame
set_option maxRecDepth 20000 in
theorem gP_c_keep__c_add : GoodIn wsP_c_keep (wsV RX1 97 RX1 yX1_add wsP_c_add) := gw_in (pre := [.methodLink RX1 97 yX1_add, .instanceMethod yX1_add, .selects RX1 yX1_add yX1_add, .initialized RX1]) (by decide +kernel) (fun _ h => List.mem_cons_of_mem _ (List.mem_append_right _ (List.mem_append_right _ (List.mem_append_right _ (List.mem_append_left _ h))))) gW_c_add
abbrev po_c_keep (cI cB cZ : ClassId) (h0 : Nat) (a : Nat) (a7 : Nat) (a8 : Nat) (a9 : Nat) (v1 : Value) (v2 : Value) (v3 : Value) (v4 : Value) (v5 : Value) (wd : Nat) (sz : Nat) (rl : Nat) (f : Nat → Int32) (rf : Nat → Int32) (sl : Nat → Int32) (cm : Nat → Int32) (x : Int32) : Int32 → va_W → Nat → Nat → Prop := (fun r9 w9 k9 n9 => ∃ z : Int32, ∃ sz9 : Nat, ∃ a79 : Nat, ∃ rl9 : Nat, ∃ rf9 : Nat → Int32, ∃ sl9 : Nat → Int32, ∃ cm9 : Nat → Int32, (rl ≤ rl9) ∧ (gRl rl9) ∧ (gZ z) ∧ (sz ≤ sz9 ∧ sz9 ≤ 3000 ∧ rl9 ≤ 102000) ∧ (sz9 * wd ≤ rl9) ∧ (gSl sl9 sz9) ∧ (gRw rf9 wd sz9) ∧ (gCm cm9 sz9) ∧ k9 = ((rl9 - rl) / 4800) ∧ n9 = (2 * (rl9 - rl)) ∧ r9 = z ∧ w9 = [(h0, .inr (1, [.int (nI sz9), v1, v2, v3, v4, v5, .int (nI wd), .ref a79, .ref a8, .ref a9])), (a, .inl (cI, 34, .inl f)), (a79, .inl (cI, rl9, .inl rf9)), (a8, .inl (cI, 4096, .inl sl9)), (a9, .inl (cI, 3000, .inl cm9))])
set_option maxHeartbeats 4000000 in
set_option maxRecDepth 100000 in
theorem c_keep (l : Launch) (D : va_G) (cI cB cZ : ClassId) (h0 : Nat) (a : Nat) (a7 : Nat) (a8 : Nat) (a9 : Nat) (v1 : Value) (v2 : Value) (v3 : Value) (v4 : Value) (v5 : Value) (wd : Nat) (sz : Nat) (rl : Nat) (f : Nat → Int32) (rf : Nat → Int32) (sl : Nat → Int32) (cm : Nat → Int32) (x : Int32) (hw16 : 16 ≤ wd) (hw34 : wd ≤ 34) (hrl : gRl rl) (hrm : 1600 ≤ rl ∧ rl ≤ 102000) (hsz : sz ≤ 3000) (hfit : sz * wd ≤ rl) (hsl : gSl sl sz) (hrw : gRw rf wd sz) (hcm : gCm cm sz) (hf : gOkW f) (hx0 : (x = (-1) ∨ ∃ q, q < 8 * (sz + 1) ∧ x = nI q)) : gMi2 l yX1_keep wsP_c_keep ({ frames := 3, cells := 21, slots := 200800, locals := 86 }) D cI cB cZ [] [.ref h0, .ref a, .int x] [(h0, .inr (1, [.int (nI sz), v1, v2, v3, v4, v5, .int (nI wd), .ref a7, .ref a8, .ref a9])), (a, .inl (cI, 34, .inl f)), (a7, .inl (cI, rl, .inl rf)), (a8, .inl (cI, 4096, .inl sl)), (a9, .inl (cI, 3000, .inl cm))] (po_c_keep cI cB cZ h0 a a7 a8 a9 v1 v2 v3 v4 v5 wd sz rl f rf sl cm x) := by
  refine gMi2.of (cc := cX1_keep) (maxL := 7) (ret := (some .boolean)) (by decide) rfl (Nat.le_of_ble_eq_true rfl) (fun p e s m below meth c A ls hx hb hr hlk hml hts hown hin hA hP hK hD hS hN hl => ?_)
  have hown : s.vm.findClass RX1 = some m.cls := hown
  have hl : lv_has ls 7 [(0, .ref h0), (1, .ref a), (2, .int x)] := hl
  refine W.widen (k := 0) (n := 0) (Nat.le_refl _) (Nat.le_refl _) ?_
  refine lv_aload_n hx hb dX1_keep_0 rfl (lv_at hl 0 rfl) ?_
  refine lv_aload_n hx hb dX1_keep_1 rfl (lv_at hl 1 rfl) ?_
  refine gx_goi (wc := [(h0, .inr (1, [.int (nI sz), v1, v2, v3, v4, v5, .int (nI wd), .ref a7, .ref a8, .ref a9])), (a, .inl (cI, 34, .inl f))]) (wr := [(a7, .inl (cI, rl, .inl rf)), (a8, .inl (cI, 4096, .inl sl)), (a9, .inl (cI, 3000, .inl cm))]) (va_runV (As := [.ref a]) (rest := []) ⟨hx, hb, hml, hown, hts⟩ (c_hashOf l D cI cB cZ h0 a (.int (nI sz)) (v1) (v2) (v3) (v4) (v5) (.ref a7) (.ref a8) (.ref a9) wd f (by omega) (by omega) _) (cwV 1 hts gP_c_keep__c_hashOf rfl rfl rfl (by decide +kernel) ⟨Nat.le_of_ble_eq_true rfl, Nat.le_of_ble_eq_true rfl⟩) (gx_preV (ci := 1) (q0 := 0) hK gN.nil hP hD [0, 1] rfl rfl rfl rfl) rfl rfl hl.1 rfl (lv_room (Nat.le_of_ble_eq_true rfl)) dX1_keep_2 ⟨(by show (0) + 0 ≤ 21; exact Nat.le_of_ble_eq_true rfl), (by show (0) + 0 ≤ 200800; exact Nat.le_of_ble_eq_true rfl)⟩) hP hD hS hA [0, 1] [2, 3, 4] rfl rfl rfl (by decide) (fun r1 w1 H locs hp hP hD hS => ?_)
  obtain ⟨e_1, h9, rfl⟩ := hp
  have h9 := h9.symm
  subst h9
  refine W.widen (k := 0) (n := 0) (Nat.le_refl _) (Nat.le_refl _) ?_
  refine lv_istore_n (lv' := [(3, .int e_1), (0, .ref h0), (1, .ref a), (2, .int x)]) hx hb dX1_keep_5 rfl hl (by decide) rfl (fun ls hl => ?_)
  refine lv_iload_n hx hb dX1_keep_6 rfl (lv_at hl 0 rfl) ?_
  refine lv_sipush (v := 4095) hx hb dX1_keep_7 (by decide) ?_
  refine lv_iand hx hb dX1_keep_10 ?_
  refine gx_top (pk_and e_1 (m := 4095) 12 (by decide +kernel)) ?_
  have hj2 : (e_1).toBitVec.toNat % 4096 < 4096 := Nat.mod_lt _ (by decide)
  refine lv_istore (lv' := [(4, .int (nI ((e_1).toBitVec.toNat % 4096))), (3, .int e_1), (0, .ref h0), (1, .ref a), (2, .int x)]) hx hb dX1_keep_11 hl (by decide) rfl (fun ls hl => ?_)
  refine lv_iconst (v := 0) hx hb dX1_keep_13 (by decide) ?_
  refine lv_istore (lv' := [(5, .int 0), (4, .int (nI ((e_1).toBitVec.toNat % 4096))), (3, .int e_1), (0, .ref h0), (1, .ref a), (2, .int x)]) hx hb dX1_keep_14 hl (by decide) rfl (fun ls hl => ?_)
  refine gy_loop0 (I := fun (x9 : Nat × Nat) H locs ls => (x9.1 ≤ 4096) ∧ (x9.2 < 4096) ∧ va_P D vwCl [(a7, .inl (cI, rl, .inl rf)), (a8, .inl (cI, 4096, .inl sl)), (a9, .inl (cI, 3000, .inl cm)), (h0, .inr (1, [.int (nI sz), v1, v2, v3, v4, v5, .int (nI wd), .ref a7, .ref a8, .ref a9])), (a, .inl (cI, 34, .inl f))] H ∧ va_D A [(a7, .inl (cI, rl, .inl rf)), (a8, .inl (cI, 4096, .inl sl)), (a9, .inl (cI, 3000, .inl cm)), (h0, .inr (1, [.int (nI sz), v1, v2, v3, v4, v5, .int (nI wd), .ref a7, .ref a8, .ref a9])), (a, .inl (cI, 34, .inl f))] ∧ va_S A s.heap H locs ∧ lv_has ls 7 [(5, .int (nI x9.1)), (4, .int (nI x9.2)), (3, .int e_1), (0, .ref h0), (1, .ref a), (2, .int x)]) (μ := fun (x9 : Nat × Nat) => 4096 - x9.1) (fun x9 H locs ls hI ih16 => ?_) (0, ((e_1).toBitVec.toNat % 4096)) ⟨(by show 0 ≤ 4096; exact Nat.le_of_ble_eq_true rfl), (by show ((e_1).toBitVec.toNat % 4096) < 4096; omega), hP, hD, hS, lv_sub hl [0, 1, 2, 3, 4, 5] rfl⟩
  obtain ⟨i, j⟩ := x9
  obtain ⟨hi16_0, hi16_1, hP, hD, hS, hl⟩ := hI
  have hi16_0 : i ≤ 4096 := hi16_0
  have hi16_1 : j < 4096 := hi16_1
  have hP : va_P D vwCl [(a7, .inl (cI, rl, .inl rf)), (a8, .inl (cI, 4096, .inl sl)), (a9, .inl (cI, 3000, .inl cm)), (h0, .inr (1, [.int (nI sz), v1, v2, v3, v4, v5, .int (nI wd), .ref a7, .ref a8, .ref a9])), (a, .inl (cI, 34, .inl f))] H := hP
  have hD : va_D A [(a7, .inl (cI, rl, .inl rf)), (a8, .inl (cI, 4096, .inl sl)), (a9, .inl (cI, 3000, .inl cm)), (h0, .inr (1, [.int (nI sz), v1, v2, v3, v4, v5, .int (nI wd), .ref a7, .ref a8, .ref a9])), (a, .inl (cI, 34, .inl f))] := hD
  have hS : va_S A s.heap H locs := hS
  have hl : lv_has ls 7 [(5, .int (nI i)), (4, .int (nI j)), (3, .int e_1), (0, .ref h0), (1, .ref a), (2, .int x)] := hl
  refine lv_iload hx hb dX1_keep_16 (lv_at hl 0 rfl) ?_
  refine lv_sipush (v := 4096) hx hb dX1_keep_18 (by decide) ?_
  refine gy_ge (a := i) (b := 4096) (tgt := 93) hx hb (by omega) (by omega) dX1_keep_21 (by decide) (fun c_3 => ?_) (fun c_3 => ?_)
  · refine lv_iconst (v := 0) hx hb dX1_keep_93 (by decide) ?_
    have hP := hP.sub (ws' := [(h0, .inr (1, [.int (nI sz), v1, v2, v3, v4, v5, .int (nI wd), .ref a7, .ref a8, .ref a9])), (a, .inl (cI, 34, .inl f)), (a7, .inl (cI, rl, .inl rf)), (a8, .inl (cI, 4096, .inl sl)), (a9, .inl (cI, 3000, .inl cm))]) [3, 4, 0, 1, 2] rfl
    have hD := hD.sub (ws' := [(h0, .inr (1, [.int (nI sz), v1, v2, v3, v4, v5, .int (nI wd), .ref a7, .ref a8, .ref a9])), (a, .inl (cI, 34, .inl f)), (a7, .inl (cI, rl, .inl rf)), (a8, .inl (cI, 4096, .inl sl)), (a9, .inl (cI, 3000, .inl cm))]) [3, 4, 0, 1, 2] (by decide) rfl
    exact gw_zret (post := po_c_keep cI cB cZ h0 a a7 a8 a9 v1 v2 v3 v4 v5 wd sz rl f rf sl cm x) (w' := [(h0, .inr (1, [.int (nI sz), v1, v2, v3, v4, v5, .int (nI wd), .ref a7, .ref a8, .ref a9])), (a, .inl (cI, 34, .inl f)), (a7, .inl (cI, rl, .inl rf)), (a8, .inl (cI, 4096, .inl sl)), (a9, .inl (cI, 3000, .inl cm))]) (k := (rl - rl) / 4800) (n := 2 * (rl - rl)) hx hb hr hlk hK hP hD hS (by show 0 ≤ 21; exact Nat.le_of_ble_eq_true rfl) (by show 0 ≤ 200800; exact Nat.le_of_ble_eq_true rfl) (by show 0 ≤ (rl - rl) / 4800; exact Nat.zero_le _) (by show 0 ≤ 2 * (rl - rl); exact Nat.zero_le _) dX1_keep_94 rfl ⟨0, sz, a7, rl, rf, sl, cm, (by omega), hrl, (Or.inl rfl), (by omega), (by omega), hsl, hrw, hcm, rfl, rfl, rfl, rfl⟩
  · refine lv_aload_n hx hb dX1_keep_24 rfl (lv_at hl 3 rfl) ?_
    refine va_get (D := D) (ci := 1) (v := .ref a8) (C := RX1) (T := TX1) (N := 10) hx hb hts (fun _ h => List.mem_cons_of_mem _ (List.mem_append_left _ (List.mem_append_right _ h))) hown hK hP 3 rfl rfl 8 (by decide) (hts (.fieldLink RX1 35 "LitmusHall$Explorer" "slots" "[I") (by decide +kernel)) (fun _ h9 => h9) rfl dX1_keep_25 ?_
    refine lv_iload hx hb dX1_keep_28 (lv_at hl 1 rfl) ?_
    refine gy_ild (i := j) hx hb hK hP 1 rfl (by omega) (by omega) dX1_keep_30 ?_
    refine lv_istore (lv' := [(6, .int (sl j)), (5, .int (nI i)), (4, .int (nI j)), (3, .int e_1), (0, .ref h0), (1, .ref a), (2, .int x)]) hx hb dX1_keep_31 hl (by decide) rfl (fun ls hl => ?_)
    refine lv_iload hx hb dX1_keep_33 (lv_at hl 0 rfl) ?_
    refine lv_if_ne (tgt := 48) hx hb dX1_keep_35 (by decide) (fun c_4 => ?_) (fun c_4 => ?_)
    · have hsj := (hsl j (by omega)).resolve_left c_4
      refine lv_iload hx hb dX1_keep_48 (lv_at hl 0 rfl) ?_
      refine lv_iload_n hx hb dX1_keep_50 rfl (lv_at hl 3 rfl) ?_
      refine lv_ixor hx hb dX1_keep_51 ?_
      refine gx_gen (fun z_5 => ?_)
      refine lv_sipush (v := (-4096)) hx hb dX1_keep_52 (by decide) ?_
      refine lv_iand hx hb dX1_keep_55 ?_
      refine gx_gen (fun z_6 => ?_)
      refine lv_if_ne (tgt := 77) hx hb dX1_keep_56 (by decide) (fun c_7 => ?_) (fun c_7 => ?_)
      · refine lv_iload hx hb dX1_keep_77 (lv_at hl 2 rfl) ?_
        refine lv_iconst (v := 1) hx hb dX1_keep_79 (by decide) ?_
        refine lv_iadd hx hb dX1_keep_80 ?_
        refine gx_top (y := nI (j + 1)) (nI_add j 1) ?_
        refine lv_sipush (v := 4095) hx hb dX1_keep_81 (by decide) ?_
        refine lv_iand hx hb dX1_keep_84 ?_
        refine gx_top (pk_and (nI (j + 1)) (m := 4095) 12 (by decide +kernel)) ?_
        have hj8 : (nI (j + 1)).toBitVec.toNat % 4096 < 4096 := Nat.mod_lt _ (by decide)
        refine lv_istore (lv' := [(4, .int (nI ((nI (j + 1)).toBitVec.toNat % 4096))), (6, .int (sl j)), (5, .int (nI i)), (3, .int e_1), (0, .ref h0), (1, .ref a), (2, .int x)]) hx hb dX1_keep_85 hl (by decide) rfl (fun ls hl => ?_)
        refine lv_iinc (v := nI (i + 1)) (lv' := [(5, .int (nI (i + 1))), (4, .int (nI ((nI (j + 1)).toBitVec.toNat % 4096))), (6, .int (sl j)), (3, .int e_1), (0, .ref h0), (1, .ref a), (2, .int x)]) hx hb dX1_keep_87 hl (k := 2) rfl (nI_add i 1) (by decide) rfl (fun ls hl => ?_)
        refine lv_goto (tgt := 16) hx hb dX1_keep_90 (by decide) ?_
        exact ih16 ((i + 1), ((nI (j + 1)).toBitVec.toNat % 4096)) H locs ls ⟨(by show (i + 1) ≤ 4096; omega), (by show ((nI (j + 1)).toBitVec.toNat % 4096) < 4096; omega), hP, hD, hS, lv_sub hl [0, 1, 3, 4, 5, 6] rfl⟩ (by show 4096 - (i + 1) < 4096 - i; omega)
      · refine lv_aload_n hx hb dX1_keep_59 rfl (lv_at hl 4 rfl) ?_
        refine lv_iload hx hb dX1_keep_60 (lv_at hl 0 rfl) ?_
        refine lv_sipush (v := 4095) hx hb dX1_keep_62 (by decide) ?_
        refine lv_iand hx hb dX1_keep_65 ?_
        refine gx_top (pk_and (sl j) (m := 4095) 12 (by decide +kernel)) ?_
        have hj9 : (sl j).toBitVec.toNat % 4096 < 4096 := Nat.mod_lt _ (by decide)
        refine lv_iconst (v := 1) hx hb dX1_keep_66 (by decide) ?_
        refine lv_isub hx hb dX1_keep_67 ?_
        refine gx_top (y := nI (((sl j).toBitVec.toNat % 4096) - 1)) (pk_sub (a := (sl j).toBitVec.toNat % 4096) (b := 1) (by omega)) ?_
        refine lv_aload_n hx hb dX1_keep_68 rfl (lv_at hl 5 rfl) ?_
        have hrow := gy_row (n := (sl j).toBitVec.toNat % 4096 - 1) (sz := sz) (wd := wd) (by omega)
        refine gx_goi (wc := [(h0, .inr (1, [.int (nI sz), v1, v2, v3, v4, v5, .int (nI wd), .ref a7, .ref a8, .ref a9])), (a, .inl (cI, 34, .inl f)), (a7, .inl (cI, rl, .inl rf))]) (wr := [(a8, .inl (cI, 4096, .inl sl)), (a9, .inl (cI, 3000, .inl cm))]) (va_runV (As := [.int (nI (((sl j).toBitVec.toNat % 4096) - 1)), .ref a]) (rest := []) ⟨hx, hb, hml, hown, hts⟩ (c_xSame l D cI cB cZ h0 a a7 (.int (nI sz)) (v1) (v2) (v3) (v4) (v5) (.ref a8) (.ref a9) wd rl rf f (((sl j).toBitVec.toNat % 4096) - 1) (by omega) (by omega) (by omega) (by omega) _) (cwV 2 hts gP_c_keep__c_xSame rfl rfl rfl (by decide +kernel) ⟨Nat.le_of_ble_eq_true rfl, Nat.le_of_ble_eq_true rfl⟩) (gx_preV (ci := 1) (q0 := 0) hK gN.nil hP hD [3, 4, 0] rfl rfl rfl rfl) rfl rfl hl.1 rfl (lv_room (Nat.le_of_ble_eq_true rfl)) dX1_keep_69 ⟨(by show (0) + 0 ≤ 21; exact Nat.le_of_ble_eq_true rfl), (by show (0) + 0 ≤ 200800; exact Nat.le_of_ble_eq_true rfl)⟩) hP hD hS hA [3, 4, 0] [1, 2] rfl rfl rfl (by decide) (fun r1 w1 H locs hp hP hD hS => ?_)
        obtain ⟨e_10, hq_11, h9, rfl⟩ := hp
        have h9 := h9.symm
        subst h9
        have hq_11 : e_10 = 0 ∨ e_10 = 1 := hq_11
        refine W.widen (k := 0) (n := 0) (Nat.le_refl _) (Nat.le_refl _) ?_
        refine lv_if_eq (tgt := 77) hx hb dX1_keep_72 (by decide) (fun c_12 => ?_) (fun c_12 => ?_)
        · refine lv_iload hx hb dX1_keep_77 (lv_at hl 2 rfl) ?_
          refine lv_iconst (v := 1) hx hb dX1_keep_79 (by decide) ?_
          refine lv_iadd hx hb dX1_keep_80 ?_
          refine gx_top (y := nI (j + 1)) (nI_add j 1) ?_
          refine lv_sipush (v := 4095) hx hb dX1_keep_81 (by decide) ?_
          refine lv_iand hx hb dX1_keep_84 ?_
          refine gx_top (pk_and (nI (j + 1)) (m := 4095) 12 (by decide +kernel)) ?_
          have hj13 : (nI (j + 1)).toBitVec.toNat % 4096 < 4096 := Nat.mod_lt _ (by decide)
          refine lv_istore (lv' := [(4, .int (nI ((nI (j + 1)).toBitVec.toNat % 4096))), (6, .int (sl j)), (5, .int (nI i)), (3, .int e_1), (0, .ref h0), (1, .ref a), (2, .int x)]) hx hb dX1_keep_85 hl (by decide) rfl (fun ls hl => ?_)
          refine lv_iinc (v := nI (i + 1)) (lv' := [(5, .int (nI (i + 1))), (4, .int (nI ((nI (j + 1)).toBitVec.toNat % 4096))), (6, .int (sl j)), (3, .int e_1), (0, .ref h0), (1, .ref a), (2, .int x)]) hx hb dX1_keep_87 hl (k := 2) rfl (nI_add i 1) (by decide) rfl (fun ls hl => ?_)
          refine lv_goto (tgt := 16) hx hb dX1_keep_90 (by decide) ?_
          have hP := hP.sub (ws' := [(a7, .inl (cI, rl, .inl rf)), (a8, .inl (cI, 4096, .inl sl)), (a9, .inl (cI, 3000, .inl cm)), (h0, .inr (1, [.int (nI sz), v1, v2, v3, v4, v5, .int (nI wd), .ref a7, .ref a8, .ref a9])), (a, .inl (cI, 34, .inl f))]) [4, 0, 1, 2, 3] rfl
          have hD := hD.sub (ws' := [(a7, .inl (cI, rl, .inl rf)), (a8, .inl (cI, 4096, .inl sl)), (a9, .inl (cI, 3000, .inl cm)), (h0, .inr (1, [.int (nI sz), v1, v2, v3, v4, v5, .int (nI wd), .ref a7, .ref a8, .ref a9])), (a, .inl (cI, 34, .inl f))]) [4, 0, 1, 2, 3] (by decide) rfl
          exact ih16 ((i + 1), ((nI (j + 1)).toBitVec.toNat % 4096)) H locs ls ⟨(by show (i + 1) ≤ 4096; omega), (by show ((nI (j + 1)).toBitVec.toNat % 4096) < 4096; omega), hP, hD, hS, lv_sub hl [0, 1, 3, 4, 5, 6] rfl⟩ (by show 4096 - (i + 1) < 4096 - i; omega)
        · refine lv_iconst (v := 1) hx hb dX1_keep_75 (by decide) ?_
          have hP := hP.sub (ws' := [(h0, .inr (1, [.int (nI sz), v1, v2, v3, v4, v5, .int (nI wd), .ref a7, .ref a8, .ref a9])), (a, .inl (cI, 34, .inl f)), (a7, .inl (cI, rl, .inl rf)), (a8, .inl (cI, 4096, .inl sl)), (a9, .inl (cI, 3000, .inl cm))]) [2, 3, 4, 0, 1] rfl
          have hD := hD.sub (ws' := [(h0, .inr (1, [.int (nI sz), v1, v2, v3, v4, v5, .int (nI wd), .ref a7, .ref a8, .ref a9])), (a, .inl (cI, 34, .inl f)), (a7, .inl (cI, rl, .inl rf)), (a8, .inl (cI, 4096, .inl sl)), (a9, .inl (cI, 3000, .inl cm))]) [2, 3, 4, 0, 1] (by decide) rfl
          exact gw_zret (post := po_c_keep cI cB cZ h0 a a7 a8 a9 v1 v2 v3 v4 v5 wd sz rl f rf sl cm x) (w' := [(h0, .inr (1, [.int (nI sz), v1, v2, v3, v4, v5, .int (nI wd), .ref a7, .ref a8, .ref a9])), (a, .inl (cI, 34, .inl f)), (a7, .inl (cI, rl, .inl rf)), (a8, .inl (cI, 4096, .inl sl)), (a9, .inl (cI, 3000, .inl cm))]) (k := (rl - rl) / 4800) (n := 2 * (rl - rl)) hx hb hr hlk hK hP hD hS (by show 0 ≤ 21; exact Nat.le_of_ble_eq_true rfl) (by show 0 ≤ 200800; exact Nat.le_of_ble_eq_true rfl) (by show 0 ≤ (rl - rl) / 4800; exact Nat.zero_le _) (by show 0 ≤ 2 * (rl - rl); exact Nat.zero_le _) dX1_keep_76 rfl ⟨1, sz, a7, rl, rf, sl, cm, (by omega), hrl, (Or.inr rfl), (by omega), (by omega), hsl, hrw, hcm, rfl, rfl, rfl, rfl⟩
    · refine lv_aload_n hx hb dX1_keep_38 rfl (lv_at hl 4 rfl) ?_
      refine lv_aload_n hx hb dX1_keep_39 rfl (lv_at hl 5 rfl) ?_
      refine lv_iload_n hx hb dX1_keep_40 rfl (lv_at hl 6 rfl) ?_
      refine lv_iload hx hb dX1_keep_41 (lv_at hl 2 rfl) ?_
      refine lv_iload_n hx hb dX1_keep_43 rfl (lv_at hl 3 rfl) ?_
      refine gw_goi (post := po_c_add cI cB cZ h0 a a7 a8 a9 (v1) (v2) (v3) (v4) (v5) wd sz rl f rf sl cm x j e_1) (wc := [(h0, .inr (1, [.int (nI sz), v1, v2, v3, v4, v5, .int (nI wd), .ref a7, .ref a8, .ref a9])), (a, .inl (cI, 34, .inl f)), (a7, .inl (cI, rl, .inl rf)), (a8, .inl (cI, 4096, .inl sl)), (a9, .inl (cI, 3000, .inl cm))]) (wr := []) (va_runV (As := [.ref a, .int x, .int (nI j), .int e_1]) (rest := []) ⟨hx, hb, hml, hown, hts⟩ (c_add l D cI cB cZ h0 a a7 a8 a9 (v1) (v2) (v3) (v4) (v5) wd sz rl f rf sl cm x j e_1 (by omega) (by omega) hrl (by omega) (by omega) (by omega) hsl hrw hcm hf hx0 (by omega) _ _) (cwV 4 hts gP_c_keep__c_add rfl rfl rfl (by decide +kernel) ⟨Nat.le_of_ble_eq_true rfl, Nat.le_of_ble_eq_true rfl⟩) (gw_preV (ci := 1) (q0 := 0) hK gN.nil hP hD [3, 4, 0, 1, 2] rfl rfl rfl rfl) rfl rfl hl.1 rfl (lv_room (Nat.le_of_ble_eq_true rfl)) dX1_keep_44 ⟨(by show (0) + 21 ≤ 21; exact Nat.le_of_ble_eq_true rfl), (by show (0) + 200800 ≤ 200800; exact Nat.le_of_ble_eq_true rfl)⟩) hP hD hS hA [3, 4, 0, 1, 2] [] rfl rfl rfl (by decide) (fun r1 w1 k1 n1 H locs hp hP hD hS => ?_)
      obtain ⟨e_14, e_15, e_16, e_17, e_18, e_19, e_20, hq_21, hq_22, hq_23, hq_24, hq_25, hq_26, hq_27, hq_28, hk1, hn1, h9, rfl⟩ := hp
      have hk1 := hk1.symm; subst hk1; have hn1 := hn1.symm; subst hn1
      have h9 := h9.symm
      subst h9
      have hq_21 : rl ≤ e_17 := hq_21
      have hq_22 : gRl e_17 := hq_22
      have hq_23 : gZ e_14 := hq_23
      have hq_24 : sz ≤ e_15 ∧ e_15 ≤ 3000 ∧ e_17 ≤ 102000 := hq_24
      have hq_25 : e_15 * wd ≤ e_17 := hq_25
      have hq_26 : gSl e_19 e_15 := hq_26
      have hq_27 : gRw e_18 wd e_15 := hq_27
      have hq_28 : gCm e_20 e_15 := hq_28
      refine W.widen (k := 0 + ((e_17 - rl) / 4800)) (n := 0 + (2 * (e_17 - rl))) (Nat.le_refl _) (Nat.le_refl _) ?_
      exact gw_zret (post := po_c_keep cI cB cZ h0 a a7 a8 a9 v1 v2 v3 v4 v5 wd sz rl f rf sl cm x) (w' := [(h0, .inr (1, [.int (nI e_15), v1, v2, v3, v4, v5, .int (nI wd), .ref e_16, .ref a8, .ref a9])), (a, .inl (cI, 34, .inl f)), (e_16, .inl (cI, e_17, .inl e_18)), (a8, .inl (cI, 4096, .inl e_19)), (a9, .inl (cI, 3000, .inl e_20))]) (k := (e_17 - rl) / 4800) (n := 2 * (e_17 - rl)) hx hb hr hlk hK hP hD hS (by show 0 + ((e_17 - rl) / 4800) ≤ 21; omega) (by show 0 + (2 * (e_17 - rl)) ≤ 200800; omega) (by show 0 + ((e_17 - rl) / 4800) ≤ (e_17 - rl) / 4800; omega) (by show 0 + (2 * (e_17 - rl)) ≤ 2 * (e_17 - rl); omega) dX1_keep_47 (gy_z01 hq_23) ⟨e_14, e_15, e_16, e_17, e_18, e_19, e_20, (by omega), hq_22, hq_23, (by omega), (by omega), hq_26, hq_27, hq_28, rfl, rfl, rfl, rfl⟩
