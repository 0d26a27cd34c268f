theorem dX1_add_0 : decode cX1_add 0 = .ok (.aload_n 0, 1) := by decide +kernel
theorem dX1_add_1 : decode cX1_add 1 = .ok (.getfield 47, 3) := by decide +kernel
theorem dX1_add_10 : decode cX1_add 10 = .ok (.iconst 0, 1) := by decide +kernel
theorem dX1_add_100 : decode cX1_add 100 = .ok (.iload_n 3, 1) := by decide +kernel
theorem dX1_add_101 : decode cX1_add 101 = .ok (.iload 4, 2) := by decide +kernel
theorem dX1_add_103 : decode cX1_add 103 = .ok (.sipush (-4096), 3) := by decide +kernel
theorem dX1_add_106 : decode cX1_add 106 = .ok (.iand, 1) := by decide +kernel
theorem dX1_add_107 : decode cX1_add 107 = .ok (.aload_n 0, 1) := by decide +kernel
theorem dX1_add_108 : decode cX1_add 108 = .ok (.getfield 47, 3) := by decide +kernel
theorem dX1_add_11 : decode cX1_add 11 = .ok (.ireturn, 1) := by decide +kernel
theorem dX1_add_111 : decode cX1_add 111 = .ok (.ior, 1) := by decide +kernel
theorem dX1_add_112 : decode cX1_add 112 = .ok (.iastore, 1) := by decide +kernel
theorem dX1_add_113 : decode cX1_add 113 = .ok (.iconst 1, 1) := by decide +kernel
theorem dX1_add_114 : decode cX1_add 114 = .ok (.ireturn, 1) := by decide +kernel
theorem dX1_add_12 : decode cX1_add 12 = .ok (.aload_n 0, 1) := by decide +kernel
theorem dX1_add_13 : decode cX1_add 13 = .ok (.getfield 47, 3) := by decide +kernel
theorem dX1_add_16 : decode cX1_add 16 = .ok (.iconst 1, 1) := by decide +kernel
theorem dX1_add_17 : decode cX1_add 17 = .ok (.iadd, 1) := by decide +kernel
theorem dX1_add_18 : decode cX1_add 18 = .ok (.aload_n 0, 1) := by decide +kernel
theorem dX1_add_19 : decode cX1_add 19 = .ok (.getfield 28, 3) := by decide +kernel
theorem dX1_add_22 : decode cX1_add 22 = .ok (.imul, 1) := by decide +kernel
theorem dX1_add_23 : decode cX1_add 23 = .ok (.aload_n 0, 1) := by decide +kernel
theorem dX1_add_24 : decode cX1_add 24 = .ok (.getfield 32, 3) := by decide +kernel
theorem dX1_add_27 : decode cX1_add 27 = .ok (.arraylength, 1) := by decide +kernel
theorem dX1_add_28 : decode cX1_add 28 = .ok (.if_icmp .le 26, 3) := by decide +kernel
theorem dX1_add_31 : decode cX1_add 31 = .ok (.aload_n 0, 1) := by decide +kernel
theorem dX1_add_32 : decode cX1_add 32 = .ok (.aload_n 0, 1) := by decide +kernel
theorem dX1_add_33 : decode cX1_add 33 = .ok (.getfield 32, 3) := by decide +kernel
theorem dX1_add_36 : decode cX1_add 36 = .ok (.aload_n 0, 1) := by decide +kernel
theorem dX1_add_37 : decode cX1_add 37 = .ok (.getfield 32, 3) := by decide +kernel
theorem dX1_add_4 : decode cX1_add 4 = .ok (.sipush 3000, 3) := by decide +kernel
theorem dX1_add_40 : decode cX1_add 40 = .ok (.arraylength, 1) := by decide +kernel
theorem dX1_add_41 : decode cX1_add 41 = .ok (.iconst 4, 1) := by decide +kernel
theorem dX1_add_42 : decode cX1_add 42 = .ok (.imul, 1) := by decide +kernel
theorem dX1_add_43 : decode cX1_add 43 = .ok (.ldc 106, 2) := by decide +kernel
theorem dX1_add_45 : decode cX1_add 45 = .ok (.invokestatic 107, 3) := by decide +kernel
theorem dX1_add_48 : decode cX1_add 48 = .ok (.invokestatic 113, 3) := by decide +kernel
theorem dX1_add_51 : decode cX1_add 51 = .ok (.putfield 32, 3) := by decide +kernel
theorem dX1_add_54 : decode cX1_add 54 = .ok (.aload_n 1, 1) := by decide +kernel
theorem dX1_add_55 : decode cX1_add 55 = .ok (.iconst 0, 1) := by decide +kernel
theorem dX1_add_56 : decode cX1_add 56 = .ok (.aload_n 0, 1) := by decide +kernel
theorem dX1_add_57 : decode cX1_add 57 = .ok (.getfield 32, 3) := by decide +kernel
theorem dX1_add_60 : decode cX1_add 60 = .ok (.aload_n 0, 1) := by decide +kernel
theorem dX1_add_61 : decode cX1_add 61 = .ok (.getfield 47, 3) := by decide +kernel
theorem dX1_add_64 : decode cX1_add 64 = .ok (.aload_n 0, 1) := by decide +kernel
theorem dX1_add_65 : decode cX1_add 65 = .ok (.getfield 28, 3) := by decide +kernel
theorem dX1_add_68 : decode cX1_add 68 = .ok (.imul, 1) := by decide +kernel
theorem dX1_add_69 : decode cX1_add 69 = .ok (.aload_n 0, 1) := by decide +kernel
theorem dX1_add_7 : decode cX1_add 7 = .ok (.if_icmp .lt 5, 3) := by decide +kernel
theorem dX1_add_70 : decode cX1_add 70 = .ok (.getfield 28, 3) := by decide +kernel
theorem dX1_add_73 : decode cX1_add 73 = .ok (.invokestatic 83, 3) := by decide +kernel
theorem dX1_add_76 : decode cX1_add 76 = .ok (.aload_n 0, 1) := by decide +kernel
theorem dX1_add_77 : decode cX1_add 77 = .ok (.getfield 38, 3) := by decide +kernel
theorem dX1_add_80 : decode cX1_add 80 = .ok (.aload_n 0, 1) := by decide +kernel
theorem dX1_add_81 : decode cX1_add 81 = .ok (.getfield 47, 3) := by decide +kernel
theorem dX1_add_84 : decode cX1_add 84 = .ok (.iload_n 2, 1) := by decide +kernel
theorem dX1_add_85 : decode cX1_add 85 = .ok (.iastore, 1) := by decide +kernel
theorem dX1_add_86 : decode cX1_add 86 = .ok (.aload_n 0, 1) := by decide +kernel
theorem dX1_add_87 : decode cX1_add 87 = .ok (.dup, 1) := by decide +kernel
theorem dX1_add_88 : decode cX1_add 88 = .ok (.getfield 47, 3) := by decide +kernel
theorem dX1_add_91 : decode cX1_add 91 = .ok (.iconst 1, 1) := by decide +kernel
theorem dX1_add_92 : decode cX1_add 92 = .ok (.iadd, 1) := by decide +kernel
theorem dX1_add_93 : decode cX1_add 93 = .ok (.putfield 47, 3) := by decide +kernel
theorem dX1_add_96 : decode cX1_add 96 = .ok (.aload_n 0, 1) := by decide +kernel
theorem dX1_add_97 : decode cX1_add 97 = .ok (.getfield 35, 3) := by decide +kernel
def wsP_c_add : List Cond := .code yX1_add cX1_add 5 (some .boolean) :: (([.fieldLink RX1 47 "LitmusHall$Explorer" "size" "I", .fieldLink RX1 28 "LitmusHall$Explorer" "width" "I", .fieldLink RX1 32 "LitmusHall$Explorer" "rows" "[I", .methodLink RX1 83 arraycopyName, .native arraycopyName, .static arraycopyName, .initialized "java/lang/System", .fieldLink RX1 38 "LitmusHall$Explorer" "came" "[I", .fieldLink RX1 35 "LitmusHall$Explorer" "slots" "[I", .constant RX1 106 (102000), .methodLink RX1 107 Lib.Math.min.name, .static Lib.Math.min.name, .initialized "java/lang/Math", .code Lib.Math.min.name Lib.Math.min.code 2 (some .int), .methodLink RX1 113 yJ7_copyOf_59c91, .static yJ7_copyOf_59c91, .initialized yJ7_copyOf_59c91.cls] ++ wsX10) ++ (wsP_c_copyOf ++ []))
theorem gW_c_add : wsP_c_add.all goodWord = true := by unfold wsP_c_add; exact gw_mk (by decide +kernel) (gw_app gW_c_copyOf rfl)
set_option maxRecDepth 20000 in
theorem gP_c_add__c_copyOf : GoodIn wsP_c_add (va_wsS RX1 113 yJ7_copyOf_59c91 wsP_c_copyOf) := gw_in (pre := [.methodLink RX1 113 yJ7_copyOf_59c91, .static yJ7_copyOf_59c91, .initialized yJ7_copyOf_59c91.cls]) (by decide +kernel) (fun _ h => List.mem_cons_of_mem _ (List.mem_append_right _ (List.mem_append_left _ h))) gW_c_copyOf
abbrev po_c_add (cI cB cZ : ClassId) (h0 : Nat) (a : Nat) (a7 : Nat) (a8 : Nat) (a9 : Nat) (v1 : Value) (v2 : Value) (v3 : Value) (v4 : Value) (v5 : Value) (wd : Nat) (sz : Nat) (rl : Nat) (f : Nat → Int32) (rf : Nat → Int32) (sl : Nat → Int32) (cm : Nat → Int32) (x : Int32) (t : Nat) (y : Int32) : Int32 → va_W → Nat → Nat → Prop := (fun r9 w9 k9 n9 => ∃ z : Int32, ∃ sz9 : Nat, ∃ a79 : Nat, ∃ rl9 : Nat, ∃ rf9 : Nat → Int32, ∃ sl9 : Nat → Int32, ∃ cm9 : Nat → Int32, (rl ≤ rl9) ∧ (gRl rl9) ∧ (gZ z) ∧ (sz ≤ sz9 ∧ sz9 ≤ 3000 ∧ rl9 ≤ 102000) ∧ (sz9 * wd ≤ rl9) ∧ (gSl sl9 sz9) ∧ (gRw rf9 wd sz9) ∧ (gCm cm9 sz9) ∧ k9 = ((rl9 - rl) / 4800) ∧ n9 = (2 * (rl9 - rl)) ∧ r9 = z ∧ w9 = [(h0, .inr (1, [.int (nI sz9), v1, v2, v3, v4, v5, .int (nI wd), .ref a79, .ref a8, .ref a9])), (a, .inl (cI, 34, .inl f)), (a79, .inl (cI, rl9, .inl rf9)), (a8, .inl (cI, 4096, .inl sl9)), (a9, .inl (cI, 3000, .inl cm9))])
set_option maxHeartbeats 4000000 in
set_option maxRecDepth 100000 in
theorem c_add (l : Launch) (D : va_G) (cI cB cZ : ClassId) (h0 : Nat) (a : Nat) (a7 : Nat) (a8 : Nat) (a9 : Nat) (v1 : Value) (v2 : Value) (v3 : Value) (v4 : Value) (v5 : Value) (wd : Nat) (sz : Nat) (rl : Nat) (f : Nat → Int32) (rf : Nat → Int32) (sl : Nat → Int32) (cm : Nat → Int32) (x : Int32) (t : Nat) (y : Int32) (hw16 : 16 ≤ wd) (hw34 : wd ≤ 34) (hrl : gRl rl) (hrm : 1600 ≤ rl ∧ rl ≤ 102000) (hsz : sz ≤ 3000) (hfit : sz * wd ≤ rl) (hsl : gSl sl sz) (hrw : gRw rf wd sz) (hcm : gCm cm sz) (hf : gOkW f) (hx0 : (x = (-1) ∨ ∃ q, q < 8 * (sz + 1) ∧ x = nI q)) (ht : t < 4096) : gMi2 l yX1_add wsP_c_add ({ frames := 2, cells := 21, slots := 200800, locals := 62 }) D cI cB cZ [] [.ref h0, .ref a, .int x, .int (nI t), .int y] [(h0, .inr (1, [.int (nI sz), v1, v2, v3, v4, v5, .int (nI wd), .ref a7, .ref a8, .ref a9])), (a, .inl (cI, 34, .inl f)), (a7, .inl (cI, rl, .inl rf)), (a8, .inl (cI, 4096, .inl sl)), (a9, .inl (cI, 3000, .inl cm))] (po_c_add cI cB cZ h0 a a7 a8 a9 v1 v2 v3 v4 v5 wd sz rl f rf sl cm x t y) := by
  refine gMi2.of (cc := cX1_add) (maxL := 5) (ret := (some .boolean)) (by decide) rfl (Nat.le_of_ble_eq_true rfl) (fun p e s m below meth c A ls hx hb hr hlk hml hts hown hin hA hP hK hD hS hN hl => ?_)
  have hown : s.vm.findClass RX1 = some m.cls := hown
  have hl : lv_has ls 5 [(0, .ref h0), (1, .ref a), (2, .int x), (3, .int (nI t)), (4, .int y)] := hl
  refine W.widen (k := 0) (n := 0) (Nat.le_refl _) (Nat.le_refl _) ?_
  refine lv_aload_n hx hb dX1_add_0 rfl (lv_at hl 0 rfl) ?_
  refine va_get (D := D) (ci := 1) (v := .int (nI sz)) (C := RX1) (T := TX1) (N := 10) hx hb hts (fun _ h => List.mem_cons_of_mem _ (List.mem_append_left _ (List.mem_append_right _ h))) hown hK hP 0 rfl rfl 0 (by decide) (hts (.fieldLink RX1 47 "LitmusHall$Explorer" "size" "I") (by decide +kernel)) (fun _ h9 => h9) rfl dX1_add_1 ?_
  refine lv_sipush (v := 3000) hx hb dX1_add_4 (by decide) ?_
  refine gy_lt (a := sz) (b := 3000) (tgt := 12) hx hb (by omega) (by omega) dX1_add_7 (by decide) (fun c_1 => ?_) (fun c_1 => ?_)
  · have hmw : (sz + 1) * wd = sz * wd + wd := by rw [Nat.add_mul, Nat.one_mul]
    have hmw2 : sz * wd + wd ≤ 3000 * 34 := Nat.le_trans (Nat.le_of_eq hmw.symm) (Nat.mul_le_mul (by omega) (by omega))
    have hru := hrl
    unfold gRl at hru
    refine lv_aload_n hx hb dX1_add_12 rfl (lv_at hl 0 rfl) ?_
    refine va_get (D := D) (ci := 1) (v := .int (nI sz)) (C := RX1) (T := TX1) (N := 10) hx hb hts (fun _ h => List.mem_cons_of_mem _ (List.mem_append_left _ (List.mem_append_right _ h))) hown hK hP 0 rfl rfl 0 (by decide) (hts (.fieldLink RX1 47 "LitmusHall$Explorer" "size" "I") (by decide +kernel)) (fun _ h9 => h9) rfl dX1_add_13 ?_
    refine lv_iconst (v := 1) hx hb dX1_add_16 (by decide) ?_
    refine lv_iadd hx hb dX1_add_17 ?_
    refine gx_top (y := nI (sz + 1)) (nI_add sz 1) ?_
    refine lv_aload_n hx hb dX1_add_18 rfl (lv_at hl 0 rfl) ?_
    refine va_get (D := D) (ci := 1) (v := .int (nI wd)) (C := RX1) (T := TX1) (N := 10) hx hb hts (fun _ h => List.mem_cons_of_mem _ (List.mem_append_left _ (List.mem_append_right _ h))) hown hK hP 0 rfl rfl 6 (by decide) (hts (.fieldLink RX1 28 "LitmusHall$Explorer" "width" "I") (by decide +kernel)) (fun _ h9 => h9) rfl dX1_add_19 ?_
    refine lv_imul hx hb dX1_add_22 ?_
    refine gx_top (y := nI ((sz + 1) * wd)) (pk_mul (sz + 1) wd) ?_
    refine lv_aload_n hx hb dX1_add_23 rfl (lv_at hl 0 rfl) ?_
    refine va_get (D := D) (ci := 1) (v := .ref a7) (C := RX1) (T := TX1) (N := 10) hx hb hts (fun _ h => List.mem_cons_of_mem _ (List.mem_append_left _ (List.mem_append_right _ h))) hown hK hP 0 rfl rfl 7 (by decide) (hts (.fieldLink RX1 32 "LitmusHall$Explorer" "rows" "[I") (by decide +kernel)) (fun _ h9 => h9) rfl dX1_add_24 ?_
    refine va_alen (v := nI rl) hx hb hK hP 2 0 rfl rfl rfl dX1_add_27 ?_
    refine gy_le (a := ((sz + 1) * wd)) (b := rl) (tgt := 54) hx hb (by omega) (by omega) dX1_add_28 (by decide) (fun c_2 => ?_) (fun c_2 => ?_)
    · refine lv_aload_n hx hb dX1_add_54 rfl (lv_at hl 1 rfl) ?_
      refine lv_iconst (v := 0) hx hb dX1_add_55 (by decide) ?_
      refine lv_aload_n hx hb dX1_add_56 rfl (lv_at hl 0 rfl) ?_
      refine va_get (D := D) (ci := 1) (v := .ref a7) (C := RX1) (T := TX1) (N := 10) hx hb hts (fun _ h => List.mem_cons_of_mem _ (List.mem_append_left _ (List.mem_append_right _ h))) hown hK hP 0 rfl rfl 7 (by decide) (hts (.fieldLink RX1 32 "LitmusHall$Explorer" "rows" "[I") (by decide +kernel)) (fun _ h9 => h9) rfl dX1_add_57 ?_
      refine lv_aload_n hx hb dX1_add_60 rfl (lv_at hl 0 rfl) ?_
      refine va_get (D := D) (ci := 1) (v := .int (nI sz)) (C := RX1) (T := TX1) (N := 10) hx hb hts (fun _ h => List.mem_cons_of_mem _ (List.mem_append_left _ (List.mem_append_right _ h))) hown hK hP 0 rfl rfl 0 (by decide) (hts (.fieldLink RX1 47 "LitmusHall$Explorer" "size" "I") (by decide +kernel)) (fun _ h9 => h9) rfl dX1_add_61 ?_
      refine lv_aload_n hx hb dX1_add_64 rfl (lv_at hl 0 rfl) ?_
      refine va_get (D := D) (ci := 1) (v := .int (nI wd)) (C := RX1) (T := TX1) (N := 10) hx hb hts (fun _ h => List.mem_cons_of_mem _ (List.mem_append_left _ (List.mem_append_right _ h))) hown hK hP 0 rfl rfl 6 (by decide) (hts (.fieldLink RX1 28 "LitmusHall$Explorer" "width" "I") (by decide +kernel)) (fun _ h9 => h9) rfl dX1_add_65 ?_
      refine lv_imul hx hb dX1_add_68 ?_
      refine gx_top (y := nI (sz * wd)) (pk_mul sz wd) ?_
      refine lv_aload_n hx hb dX1_add_69 rfl (lv_at hl 0 rfl) ?_
      refine va_get (D := D) (ci := 1) (v := .int (nI wd)) (C := RX1) (T := TX1) (N := 10) hx hb hts (fun _ h => List.mem_cons_of_mem _ (List.mem_append_left _ (List.mem_append_right _ h))) hown hK hP 0 rfl rfl 6 (by decide) (hts (.fieldLink RX1 28 "LitmusHall$Explorer" "width" "I") (by decide +kernel)) (fun _ h9 => h9) rfl dX1_add_70 ?_
      refine gy_copyi (sp := 0) (dp := (sz * wd)) (n := wd) hx hb (hml.trans hl.1.symm) hown (hts (.methodLink RX1 83 arraycopyName) (by decide +kernel)) (hts (.native arraycopyName) (by decide +kernel)) (hts (.static arraycopyName) (by decide +kernel)) (hts (.initialized "java/lang/System") (by decide +kernel)) hK hP hD hS 1 2 rfl rfl (by omega) (by omega) (by omega) (by omega) (by omega) (Nat.le_of_ble_eq_true rfl) (Nat.le_of_ble_eq_true rfl) dX1_add_73 (fun H locs hP hD hS => ?_)
      have hP : va_P D vwCl [(h0, .inr (1, [.int (nI sz), v1, v2, v3, v4, v5, .int (nI wd), .ref a7, .ref a8, .ref a9])), (a, .inl (cI, 34, .inl f)), (a7, .inl (cI, rl, .inl (va_cpy f rf 0 (sz * wd) wd))), (a8, .inl (cI, 4096, .inl sl)), (a9, .inl (cI, 3000, .inl cm))] H := hP
      have hD : va_D A [(h0, .inr (1, [.int (nI sz), v1, v2, v3, v4, v5, .int (nI wd), .ref a7, .ref a8, .ref a9])), (a, .inl (cI, 34, .inl f)), (a7, .inl (cI, rl, .inl (va_cpy f rf 0 (sz * wd) wd))), (a8, .inl (cI, 4096, .inl sl)), (a9, .inl (cI, 3000, .inl cm))] := hD
      refine lv_aload_n hx hb dX1_add_76 rfl (lv_at hl 0 rfl) ?_
      refine va_get (D := D) (ci := 1) (v := .ref a9) (C := RX1) (T := TX1) (N := 10) hx hb hts (fun _ h => List.mem_cons_of_mem _ (List.mem_append_left _ (List.mem_append_right _ h))) hown hK hP 0 rfl rfl 9 (by decide) (hts (.fieldLink RX1 38 "LitmusHall$Explorer" "came" "[I") (by decide +kernel)) (fun _ h9 => h9) rfl dX1_add_77 ?_
      refine lv_aload_n hx hb dX1_add_80 rfl (lv_at hl 0 rfl) ?_
      refine va_get (D := D) (ci := 1) (v := .int (nI sz)) (C := RX1) (T := TX1) (N := 10) hx hb hts (fun _ h => List.mem_cons_of_mem _ (List.mem_append_left _ (List.mem_append_right _ h))) hown hK hP 0 rfl rfl 0 (by decide) (hts (.fieldLink RX1 47 "LitmusHall$Explorer" "size" "I") (by decide +kernel)) (fun _ h9 => h9) rfl dX1_add_81 ?_
      refine lv_iload_n hx hb dX1_add_84 rfl (lv_at hl 2 rfl) ?_
      refine gy_ist (i := sz) hx hb hK hP hD hS 4 rfl (by omega) (by omega) dX1_add_85 (fun H locs hP hD hS => ?_)
      have hP : va_P D vwCl [(h0, .inr (1, [.int (nI sz), v1, v2, v3, v4, v5, .int (nI wd), .ref a7, .ref a8, .ref a9])), (a, .inl (cI, 34, .inl f)), (a7, .inl (cI, rl, .inl (va_cpy f rf 0 (sz * wd) wd))), (a8, .inl (cI, 4096, .inl sl)), (a9, .inl (cI, 3000, .inl (upd cm sz x)))] H := hP
      have hD : va_D A [(h0, .inr (1, [.int (nI sz), v1, v2, v3, v4, v5, .int (nI wd), .ref a7, .ref a8, .ref a9])), (a, .inl (cI, 34, .inl f)), (a7, .inl (cI, rl, .inl (va_cpy f rf 0 (sz * wd) wd))), (a8, .inl (cI, 4096, .inl sl)), (a9, .inl (cI, 3000, .inl (upd cm sz x)))] := hD
      refine lv_aload_n hx hb dX1_add_86 rfl (lv_at hl 0 rfl) ?_
      refine lv_dup hx hb dX1_add_87 rfl ?_
      refine va_get (D := D) (ci := 1) (v := .int (nI sz)) (C := RX1) (T := TX1) (N := 10) hx hb hts (fun _ h => List.mem_cons_of_mem _ (List.mem_append_left _ (List.mem_append_right _ h))) hown hK hP 0 rfl rfl 0 (by decide) (hts (.fieldLink RX1 47 "LitmusHall$Explorer" "size" "I") (by decide +kernel)) (fun _ h9 => h9) rfl dX1_add_88 ?_
      refine lv_iconst (v := 1) hx hb dX1_add_91 (by decide) ?_
      refine lv_iadd hx hb dX1_add_92 ?_
      refine gx_top (y := nI (sz + 1)) (nI_add sz 1) ?_
      refine va_put (D := D) (ci := 1) (v := .int (nI (sz + 1))) (ty := .int) (C := RX1) (T := TX1) (N := 10) hx hb hts (fun _ h => List.mem_cons_of_mem _ (List.mem_append_left _ (List.mem_append_right _ h))) tyX1 tyX1_ok nmX1 hown hK hP hD hS 0 rfl rfl 0 (by decide) (hts (.fieldLink RX1 47 "LitmusHall$Explorer" "size" "I") (by decide +kernel)) (fun _ h9 => h9) rfl (by decide +kernel) rfl rfl (Nat.le_of_ble_eq_true rfl) dX1_add_93 (fun H locs hP hD hS => ?_)
      have hP : va_P D vwCl [(h0, .inr (1, [.int (nI (sz + 1)), v1, v2, v3, v4, v5, .int (nI wd), .ref a7, .ref a8, .ref a9])), (a, .inl (cI, 34, .inl f)), (a7, .inl (cI, rl, .inl (va_cpy f rf 0 (sz * wd) wd))), (a8, .inl (cI, 4096, .inl sl)), (a9, .inl (cI, 3000, .inl (upd cm sz x)))] H := hP
      have hD : va_D A [(h0, .inr (1, [.int (nI (sz + 1)), v1, v2, v3, v4, v5, .int (nI wd), .ref a7, .ref a8, .ref a9])), (a, .inl (cI, 34, .inl f)), (a7, .inl (cI, rl, .inl (va_cpy f rf 0 (sz * wd) wd))), (a8, .inl (cI, 4096, .inl sl)), (a9, .inl (cI, 3000, .inl (upd cm sz x)))] := hD
      refine lv_aload_n hx hb dX1_add_96 rfl (lv_at hl 0 rfl) ?_
      refine va_get (D := D) (ci := 1) (v := .ref a8) (C := RX1) (T := TX1) (N := 10) hx hb hts (fun _ h => List.mem_cons_of_mem _ (List.mem_append_left _ (List.mem_append_right _ h))) hown hK hP 0 rfl rfl 8 (by decide) (hts (.fieldLink RX1 35 "LitmusHall$Explorer" "slots" "[I") (by decide +kernel)) (fun _ h9 => h9) rfl dX1_add_97 ?_
      refine lv_iload_n hx hb dX1_add_100 rfl (lv_at hl 3 rfl) ?_
      refine lv_iload hx hb dX1_add_101 (lv_at hl 4 rfl) ?_
      refine lv_sipush (v := (-4096)) hx hb dX1_add_103 (by decide) ?_
      refine lv_iand hx hb dX1_add_106 ?_
      refine lv_aload_n hx hb dX1_add_107 rfl (lv_at hl 0 rfl) ?_
      refine va_get (D := D) (ci := 1) (v := .int (nI (sz + 1))) (C := RX1) (T := TX1) (N := 10) hx hb hts (fun _ h => List.mem_cons_of_mem _ (List.mem_append_left _ (List.mem_append_right _ h))) hown hK hP 0 rfl rfl 0 (by decide) (hts (.fieldLink RX1 47 "LitmusHall$Explorer" "size" "I") (by decide +kernel)) (fun _ h9 => h9) rfl dX1_add_108 ?_
      refine lv_ior hx hb dX1_add_111 ?_
      refine gy_ist (i := t) hx hb hK hP hD hS 3 rfl (by omega) (by omega) dX1_add_112 (fun H locs hP hD hS => ?_)
      have hP : va_P D vwCl [(h0, .inr (1, [.int (nI (sz + 1)), v1, v2, v3, v4, v5, .int (nI wd), .ref a7, .ref a8, .ref a9])), (a, .inl (cI, 34, .inl f)), (a7, .inl (cI, rl, .inl (va_cpy f rf 0 (sz * wd) wd))), (a8, .inl (cI, 4096, .inl (upd sl t ((y &&& (-4096)) ||| (nI (sz + 1)))))), (a9, .inl (cI, 3000, .inl (upd cm sz x)))] H := hP
      have hD : va_D A [(h0, .inr (1, [.int (nI (sz + 1)), v1, v2, v3, v4, v5, .int (nI wd), .ref a7, .ref a8, .ref a9])), (a, .inl (cI, 34, .inl f)), (a7, .inl (cI, rl, .inl (va_cpy f rf 0 (sz * wd) wd))), (a8, .inl (cI, 4096, .inl (upd sl t ((y &&& (-4096)) ||| (nI (sz + 1)))))), (a9, .inl (cI, 3000, .inl (upd cm sz x)))] := hD
      refine lv_iconst (v := 1) hx hb dX1_add_113 (by decide) ?_
      exact gw_zret (post := po_c_add cI cB cZ h0 a a7 a8 a9 v1 v2 v3 v4 v5 wd sz rl f rf sl cm x t y) (w' := [(h0, .inr (1, [.int (nI (sz + 1)), v1, v2, v3, v4, v5, .int (nI wd), .ref a7, .ref a8, .ref a9])), (a, .inl (cI, 34, .inl f)), (a7, .inl (cI, rl, .inl (va_cpy f rf 0 (sz * wd) wd))), (a8, .inl (cI, 4096, .inl (upd sl t ((y &&& (-4096)) ||| (nI (sz + 1)))))), (a9, .inl (cI, 3000, .inl (upd cm sz x)))]) (k := (rl - rl) / 4800) (n := 2 * (rl - rl)) hx hb hr hlk hK hP hD hS (by show 0 ≤ 21; exact Nat.le_of_ble_eq_true rfl) (by show 0 ≤ 200800; exact Nat.le_of_ble_eq_true rfl) (by show 0 ≤ (rl - rl) / 4800; exact Nat.zero_le _) (by show 0 ≤ 2 * (rl - rl); exact Nat.zero_le _) dX1_add_114 rfl ⟨1, (sz + 1), a7, rl, (va_cpy f rf 0 (sz * wd) wd), (upd sl t ((y &&& (-4096)) ||| (nI (sz + 1)))), (upd cm sz x), (by omega), (by unfold gRl; omega), (Or.inr rfl), (by omega), (by omega), (gSl_add hsl (by omega)), (gRw_add hrw hw16 (fun j h => by first | (rw [pk_cpy_out (by omega)]; done) | (rw [pk_cpy_out (by omega)]; exact c_2 j (by omega))) (fun j h => by rw [pk_cpy_in (by omega) (by omega)]; congr 1; omega) hf), (gCm_add hcm hx0), rfl, rfl, rfl, rfl⟩
    · refine lv_aload_n hx hb dX1_add_31 rfl (lv_at hl 0 rfl) ?_
      refine lv_aload_n hx hb dX1_add_32 rfl (lv_at hl 0 rfl) ?_
      refine va_get (D := D) (ci := 1) (v := .ref a7) (C := RX1) (T := TX1) (N := 10) hx hb hts (fun _ h => List.mem_cons_of_mem _ (List.mem_append_left _ (List.mem_append_right _ h))) hown hK hP 0 rfl rfl 7 (by decide) (hts (.fieldLink RX1 32 "LitmusHall$Explorer" "rows" "[I") (by decide +kernel)) (fun _ h9 => h9) rfl dX1_add_33 ?_
      refine lv_aload_n hx hb dX1_add_36 rfl (lv_at hl 0 rfl) ?_
      refine va_get (D := D) (ci := 1) (v := .ref a7) (C := RX1) (T := TX1) (N := 10) hx hb hts (fun _ h => List.mem_cons_of_mem _ (List.mem_append_left _ (List.mem_append_right _ h))) hown hK hP 0 rfl rfl 7 (by decide) (hts (.fieldLink RX1 32 "LitmusHall$Explorer" "rows" "[I") (by decide +kernel)) (fun _ h9 => h9) rfl dX1_add_37 ?_
      refine va_alen (v := nI rl) hx hb hK hP 2 0 rfl rfl rfl dX1_add_40 ?_
      refine lv_iconst (v := 4) hx hb dX1_add_41 (by decide) ?_
      refine lv_imul hx hb dX1_add_42 ?_
      refine gx_top (y := nI (rl * 4)) (pk_mul rl 4) ?_
      refine lv_ldc hx hb hown (hts (.constant RX1 106 (102000)) (by decide +kernel)) dX1_add_43 ?_
      refine va_mmin hx hb (hml.trans hl.1.symm) hown (hts (.methodLink RX1 107 Lib.Math.min.name) (by decide +kernel)) (hts (.static Lib.Math.min.name) (by decide +kernel)) (hts (.initialized "java/lang/Math") (by decide +kernel)) (hts (.code Lib.Math.min.name Lib.Math.min.code 2 (some .int)) (by decide +kernel)) (Nat.le_of_ble_eq_true rfl) (Nat.le_of_ble_eq_true rfl) (by show 0 ≤ 21; exact Nat.le_of_ble_eq_true rfl) (by show 0 ≤ 200800; exact Nat.le_of_ble_eq_true rfl) dX1_add_45 ?_
      refine gx_top (y := nI (min (rl * 4) 102000)) (gy_min (a := rl * 4) (b := 102000) (by omega) (by omega)) ?_
      obtain ⟨m_3, hm_3⟩ : ∃ z9, z9 = min (rl * 4) 102000 := ⟨_, rfl⟩
      rw [← hm_3]
      refine gw_gor (post := po_c_copyOf cI cB cZ a7 rl rf m_3) (wc := [(a7, .inl (cI, rl, .inl rf))]) (wr := [(h0, .inr (1, [.int (nI sz), v1, v2, v3, v4, v5, .int (nI wd), .ref a7, .ref a8, .ref a9])), (a, .inl (cI, 34, .inl f)), (a8, .inl (cI, 4096, .inl sl)), (a9, .inl (cI, 3000, .inl cm))]) (va_runS (As := [.ref a7, .int (nI m_3)]) (rest := [.ref h0]) ⟨hx, hb, hml, hown, hts⟩ (c_copyOf l D cI cB cZ a7 rl rf m_3 (by omega) (by omega) _ _) (va_cwS 2 hts gP_c_add__c_copyOf rfl rfl rfl (by decide +kernel) ⟨Nat.le_of_ble_eq_true rfl, Nat.le_of_ble_eq_true rfl⟩) (gw_preS hK gN.nil hP hD [2] rfl rfl) rfl rfl hl.1 rfl (lv_room (Nat.le_of_ble_eq_true rfl)) dX1_add_48 ⟨(by show (0) + 1 ≤ 21; exact Nat.le_of_ble_eq_true rfl), (by show (0) + 102000 ≤ 200800; exact Nat.le_of_ble_eq_true rfl)⟩) hP hD hS hA [2] [0, 1, 3, 4] rfl rfl rfl (by decide) (fun r1 w1 k1 n1 H locs hp hP hD hS => ?_)
      obtain ⟨e_4, e_5, hq_6, hk1, hn1, h9, rfl⟩ := hp
      have hk1 := hk1.symm; subst hk1; have hn1 := hn1.symm; subst hn1
      have h9 := h9.symm
      subst h9
      have hq_6 : ∀ j, j < rl → e_5 j = rf j := hq_6
      refine W.widen (k := 0 + (1)) (n := 0 + (m_3)) (Nat.le_refl _) (Nat.le_refl _) ?_
      refine va_put (D := D) (ci := 1) (v := .ref e_4) (ty := (.array .int)) (C := RX1) (T := TX1) (N := 10) hx hb hts (fun _ h => List.mem_cons_of_mem _ (List.mem_append_left _ (List.mem_append_right _ h))) tyX1 tyX1_ok nmX1 hown hK hP hD hS 0 rfl rfl 7 (by decide) (hts (.fieldLink RX1 32 "LitmusHall$Explorer" "rows" "[I") (by decide +kernel)) (fun _ h9 => h9) rfl (by decide +kernel) rfl rfl (Nat.le_of_ble_eq_true rfl) dX1_add_51 (fun H locs hP hD hS => ?_)
      have hP : va_P D vwCl [(h0, .inr (1, [.int (nI sz), v1, v2, v3, v4, v5, .int (nI wd), .ref e_4, .ref a8, .ref a9])), (a, .inl (cI, 34, .inl f)), (a8, .inl (cI, 4096, .inl sl)), (a9, .inl (cI, 3000, .inl cm)), (a7, .inl (cI, rl, .inl rf)), (e_4, .inl (cI, m_3, .inl e_5))] H := hP
      have hD : va_D A [(h0, .inr (1, [.int (nI sz), v1, v2, v3, v4, v5, .int (nI wd), .ref e_4, .ref a8, .ref a9])), (a, .inl (cI, 34, .inl f)), (a8, .inl (cI, 4096, .inl sl)), (a9, .inl (cI, 3000, .inl cm)), (a7, .inl (cI, rl, .inl rf)), (e_4, .inl (cI, m_3, .inl e_5))] := hD
      refine lv_aload_n hx hb dX1_add_54 rfl (lv_at hl 1 rfl) ?_
      refine lv_iconst (v := 0) hx hb dX1_add_55 (by decide) ?_
      refine lv_aload_n hx hb dX1_add_56 rfl (lv_at hl 0 rfl) ?_
      refine va_get (D := D) (ci := 1) (v := .ref e_4) (C := RX1) (T := TX1) (N := 10) hx hb hts (fun _ h => List.mem_cons_of_mem _ (List.mem_append_left _ (List.mem_append_right _ h))) hown hK hP 0 rfl rfl 7 (by decide) (hts (.fieldLink RX1 32 "LitmusHall$Explorer" "rows" "[I") (by decide +kernel)) (fun _ h9 => h9) rfl dX1_add_57 ?_
      refine lv_aload_n hx hb dX1_add_60 rfl (lv_at hl 0 rfl) ?_
      refine va_get (D := D) (ci := 1) (v := .int (nI sz)) (C := RX1) (T := TX1) (N := 10) hx hb hts (fun _ h => List.mem_cons_of_mem _ (List.mem_append_left _ (List.mem_append_right _ h))) hown hK hP 0 rfl rfl 0 (by decide) (hts (.fieldLink RX1 47 "LitmusHall$Explorer" "size" "I") (by decide +kernel)) (fun _ h9 => h9) rfl dX1_add_61 ?_
      refine lv_aload_n hx hb dX1_add_64 rfl (lv_at hl 0 rfl) ?_
      refine va_get (D := D) (ci := 1) (v := .int (nI wd)) (C := RX1) (T := TX1) (N := 10) hx hb hts (fun _ h => List.mem_cons_of_mem _ (List.mem_append_left _ (List.mem_append_right _ h))) hown hK hP 0 rfl rfl 6 (by decide) (hts (.fieldLink RX1 28 "LitmusHall$Explorer" "width" "I") (by decide +kernel)) (fun _ h9 => h9) rfl dX1_add_65 ?_
      refine lv_imul hx hb dX1_add_68 ?_
      refine gx_top (y := nI (sz * wd)) (pk_mul sz wd) ?_
      refine lv_aload_n hx hb dX1_add_69 rfl (lv_at hl 0 rfl) ?_
      refine va_get (D := D) (ci := 1) (v := .int (nI wd)) (C := RX1) (T := TX1) (N := 10) hx hb hts (fun _ h => List.mem_cons_of_mem _ (List.mem_append_left _ (List.mem_append_right _ h))) hown hK hP 0 rfl rfl 6 (by decide) (hts (.fieldLink RX1 28 "LitmusHall$Explorer" "width" "I") (by decide +kernel)) (fun _ h9 => h9) rfl dX1_add_70 ?_
      refine gy_copyi (sp := 0) (dp := (sz * wd)) (n := wd) hx hb (hml.trans hl.1.symm) hown (hts (.methodLink RX1 83 arraycopyName) (by decide +kernel)) (hts (.native arraycopyName) (by decide +kernel)) (hts (.static arraycopyName) (by decide +kernel)) (hts (.initialized "java/lang/System") (by decide +kernel)) hK hP hD hS 1 5 rfl rfl (by omega) (by omega) (by omega) (by omega) (by omega) (Nat.le_of_ble_eq_true rfl) (Nat.le_of_ble_eq_true rfl) dX1_add_73 (fun H locs hP hD hS => ?_)
      have hP : va_P D vwCl [(h0, .inr (1, [.int (nI sz), v1, v2, v3, v4, v5, .int (nI wd), .ref e_4, .ref a8, .ref a9])), (a, .inl (cI, 34, .inl f)), (a8, .inl (cI, 4096, .inl sl)), (a9, .inl (cI, 3000, .inl cm)), (a7, .inl (cI, rl, .inl rf)), (e_4, .inl (cI, m_3, .inl (va_cpy f e_5 0 (sz * wd) wd)))] H := hP
      have hD : va_D A [(h0, .inr (1, [.int (nI sz), v1, v2, v3, v4, v5, .int (nI wd), .ref e_4, .ref a8, .ref a9])), (a, .inl (cI, 34, .inl f)), (a8, .inl (cI, 4096, .inl sl)), (a9, .inl (cI, 3000, .inl cm)), (a7, .inl (cI, rl, .inl rf)), (e_4, .inl (cI, m_3, .inl (va_cpy f e_5 0 (sz * wd) wd)))] := hD
      refine lv_aload_n hx hb dX1_add_76 rfl (lv_at hl 0 rfl) ?_
      refine va_get (D := D) (ci := 1) (v := .ref a9) (C := RX1) (T := TX1) (N := 10) hx hb hts (fun _ h => List.mem_cons_of_mem _ (List.mem_append_left _ (List.mem_append_right _ h))) hown hK hP 0 rfl rfl 9 (by decide) (hts (.fieldLink RX1 38 "LitmusHall$Explorer" "came" "[I") (by decide +kernel)) (fun _ h9 => h9) rfl dX1_add_77 ?_
      refine lv_aload_n hx hb dX1_add_80 rfl (lv_at hl 0 rfl) ?_
      refine va_get (D := D) (ci := 1) (v := .int (nI sz)) (C := RX1) (T := TX1) (N := 10) hx hb hts (fun _ h => List.mem_cons_of_mem _ (List.mem_append_left _ (List.mem_append_right _ h))) hown hK hP 0 rfl rfl 0 (by decide) (hts (.fieldLink RX1 47 "LitmusHall$Explorer" "size" "I") (by decide +kernel)) (fun _ h9 => h9) rfl dX1_add_81 ?_
      refine lv_iload_n hx hb dX1_add_84 rfl (lv_at hl 2 rfl) ?_
      refine gy_ist (i := sz) hx hb hK hP hD hS 3 rfl (by omega) (by omega) dX1_add_85 (fun H locs hP hD hS => ?_)
      have hP : va_P D vwCl [(h0, .inr (1, [.int (nI sz), v1, v2, v3, v4, v5, .int (nI wd), .ref e_4, .ref a8, .ref a9])), (a, .inl (cI, 34, .inl f)), (a8, .inl (cI, 4096, .inl sl)), (a9, .inl (cI, 3000, .inl (upd cm sz x))), (a7, .inl (cI, rl, .inl rf)), (e_4, .inl (cI, m_3, .inl (va_cpy f e_5 0 (sz * wd) wd)))] H := hP
      have hD : va_D A [(h0, .inr (1, [.int (nI sz), v1, v2, v3, v4, v5, .int (nI wd), .ref e_4, .ref a8, .ref a9])), (a, .inl (cI, 34, .inl f)), (a8, .inl (cI, 4096, .inl sl)), (a9, .inl (cI, 3000, .inl (upd cm sz x))), (a7, .inl (cI, rl, .inl rf)), (e_4, .inl (cI, m_3, .inl (va_cpy f e_5 0 (sz * wd) wd)))] := hD
      refine lv_aload_n hx hb dX1_add_86 rfl (lv_at hl 0 rfl) ?_
      refine lv_dup hx hb dX1_add_87 rfl ?_
      refine va_get (D := D) (ci := 1) (v := .int (nI sz)) (C := RX1) (T := TX1) (N := 10) hx hb hts (fun _ h => List.mem_cons_of_mem _ (List.mem_append_left _ (List.mem_append_right _ h))) hown hK hP 0 rfl rfl 0 (by decide) (hts (.fieldLink RX1 47 "LitmusHall$Explorer" "size" "I") (by decide +kernel)) (fun _ h9 => h9) rfl dX1_add_88 ?_
      refine lv_iconst (v := 1) hx hb dX1_add_91 (by decide) ?_
      refine lv_iadd hx hb dX1_add_92 ?_
      refine gx_top (y := nI (sz + 1)) (nI_add sz 1) ?_
      refine va_put (D := D) (ci := 1) (v := .int (nI (sz + 1))) (ty := .int) (C := RX1) (T := TX1) (N := 10) hx hb hts (fun _ h => List.mem_cons_of_mem _ (List.mem_append_left _ (List.mem_append_right _ h))) tyX1 tyX1_ok nmX1 hown hK hP hD hS 0 rfl rfl 0 (by decide) (hts (.fieldLink RX1 47 "LitmusHall$Explorer" "size" "I") (by decide +kernel)) (fun _ h9 => h9) rfl (by decide +kernel) rfl rfl (Nat.le_of_ble_eq_true rfl) dX1_add_93 (fun H locs hP hD hS => ?_)
      have hP : va_P D vwCl [(h0, .inr (1, [.int (nI (sz + 1)), v1, v2, v3, v4, v5, .int (nI wd), .ref e_4, .ref a8, .ref a9])), (a, .inl (cI, 34, .inl f)), (a8, .inl (cI, 4096, .inl sl)), (a9, .inl (cI, 3000, .inl (upd cm sz x))), (a7, .inl (cI, rl, .inl rf)), (e_4, .inl (cI, m_3, .inl (va_cpy f e_5 0 (sz * wd) wd)))] H := hP
      have hD : va_D A [(h0, .inr (1, [.int (nI (sz + 1)), v1, v2, v3, v4, v5, .int (nI wd), .ref e_4, .ref a8, .ref a9])), (a, .inl (cI, 34, .inl f)), (a8, .inl (cI, 4096, .inl sl)), (a9, .inl (cI, 3000, .inl (upd cm sz x))), (a7, .inl (cI, rl, .inl rf)), (e_4, .inl (cI, m_3, .inl (va_cpy f e_5 0 (sz * wd) wd)))] := hD
      refine lv_aload_n hx hb dX1_add_96 rfl (lv_at hl 0 rfl) ?_
      refine va_get (D := D) (ci := 1) (v := .ref a8) (C := RX1) (T := TX1) (N := 10) hx hb hts (fun _ h => List.mem_cons_of_mem _ (List.mem_append_left _ (List.mem_append_right _ h))) hown hK hP 0 rfl rfl 8 (by decide) (hts (.fieldLink RX1 35 "LitmusHall$Explorer" "slots" "[I") (by decide +kernel)) (fun _ h9 => h9) rfl dX1_add_97 ?_
      refine lv_iload_n hx hb dX1_add_100 rfl (lv_at hl 3 rfl) ?_
      refine lv_iload hx hb dX1_add_101 (lv_at hl 4 rfl) ?_
      refine lv_sipush (v := (-4096)) hx hb dX1_add_103 (by decide) ?_
      refine lv_iand hx hb dX1_add_106 ?_
      refine lv_aload_n hx hb dX1_add_107 rfl (lv_at hl 0 rfl) ?_
      refine va_get (D := D) (ci := 1) (v := .int (nI (sz + 1))) (C := RX1) (T := TX1) (N := 10) hx hb hts (fun _ h => List.mem_cons_of_mem _ (List.mem_append_left _ (List.mem_append_right _ h))) hown hK hP 0 rfl rfl 0 (by decide) (hts (.fieldLink RX1 47 "LitmusHall$Explorer" "size" "I") (by decide +kernel)) (fun _ h9 => h9) rfl dX1_add_108 ?_
      refine lv_ior hx hb dX1_add_111 ?_
      refine gy_ist (i := t) hx hb hK hP hD hS 2 rfl (by omega) (by omega) dX1_add_112 (fun H locs hP hD hS => ?_)
      have hP : va_P D vwCl [(h0, .inr (1, [.int (nI (sz + 1)), v1, v2, v3, v4, v5, .int (nI wd), .ref e_4, .ref a8, .ref a9])), (a, .inl (cI, 34, .inl f)), (a8, .inl (cI, 4096, .inl (upd sl t ((y &&& (-4096)) ||| (nI (sz + 1)))))), (a9, .inl (cI, 3000, .inl (upd cm sz x))), (a7, .inl (cI, rl, .inl rf)), (e_4, .inl (cI, m_3, .inl (va_cpy f e_5 0 (sz * wd) wd)))] H := hP
      have hD : va_D A [(h0, .inr (1, [.int (nI (sz + 1)), v1, v2, v3, v4, v5, .int (nI wd), .ref e_4, .ref a8, .ref a9])), (a, .inl (cI, 34, .inl f)), (a8, .inl (cI, 4096, .inl (upd sl t ((y &&& (-4096)) ||| (nI (sz + 1)))))), (a9, .inl (cI, 3000, .inl (upd cm sz x))), (a7, .inl (cI, rl, .inl rf)), (e_4, .inl (cI, m_3, .inl (va_cpy f e_5 0 (sz * wd) wd)))] := hD
      refine lv_iconst (v := 1) hx hb dX1_add_113 (by decide) ?_
      have hP := hP.sub (ws' := [(h0, .inr (1, [.int (nI (sz + 1)), v1, v2, v3, v4, v5, .int (nI wd), .ref e_4, .ref a8, .ref a9])), (a, .inl (cI, 34, .inl f)), (e_4, .inl (cI, m_3, .inl (va_cpy f e_5 0 (sz * wd) wd))), (a8, .inl (cI, 4096, .inl (upd sl t ((y &&& (-4096)) ||| (nI (sz + 1)))))), (a9, .inl (cI, 3000, .inl (upd cm sz x)))]) [0, 1, 5, 2, 3] rfl
      have hD := hD.sub (ws' := [(h0, .inr (1, [.int (nI (sz + 1)), v1, v2, v3, v4, v5, .int (nI wd), .ref e_4, .ref a8, .ref a9])), (a, .inl (cI, 34, .inl f)), (e_4, .inl (cI, m_3, .inl (va_cpy f e_5 0 (sz * wd) wd))), (a8, .inl (cI, 4096, .inl (upd sl t ((y &&& (-4096)) ||| (nI (sz + 1)))))), (a9, .inl (cI, 3000, .inl (upd cm sz x)))]) [0, 1, 5, 2, 3] (by decide) rfl
      exact gw_zret (post := po_c_add cI cB cZ h0 a a7 a8 a9 v1 v2 v3 v4 v5 wd sz rl f rf sl cm x t y) (w' := [(h0, .inr (1, [.int (nI (sz + 1)), v1, v2, v3, v4, v5, .int (nI wd), .ref e_4, .ref a8, .ref a9])), (a, .inl (cI, 34, .inl f)), (e_4, .inl (cI, m_3, .inl (va_cpy f e_5 0 (sz * wd) wd))), (a8, .inl (cI, 4096, .inl (upd sl t ((y &&& (-4096)) ||| (nI (sz + 1)))))), (a9, .inl (cI, 3000, .inl (upd cm sz x)))]) (k := (m_3 - rl) / 4800) (n := 2 * (m_3 - rl)) hx hb hr hlk hK hP hD hS (by show 0 + (1) ≤ 21; exact Nat.le_of_ble_eq_true rfl) (by show 0 + (m_3) ≤ 200800; omega) (by show 0 + (1) ≤ (m_3 - rl) / 4800; omega) (by show 0 + (m_3) ≤ 2 * (m_3 - rl); omega) dX1_add_114 rfl ⟨1, (sz + 1), e_4, m_3, (va_cpy f e_5 0 (sz * wd) wd), (upd sl t ((y &&& (-4096)) ||| (nI (sz + 1)))), (upd cm sz x), (by omega), (by unfold gRl; omega), (Or.inr rfl), (by omega), (by omega), (gSl_add hsl (by omega)), (gRw_add hrw hw16 (fun j h => by first | (rw [pk_cpy_out (by omega)]; done) | (rw [pk_cpy_out (by omega)]; exact hq_6 j (by omega))) (fun j h => by rw [pk_cpy_in (by omega) (by omega)]; congr 1; omega) hf), (gCm_add hcm hx0), rfl, rfl, rfl, rfl⟩
  · refine lv_iconst (v := 0) hx hb dX1_add_10 (by decide) ?_
    exact gw_zret (post := po_c_add cI cB cZ h0 a a7 a8 a9 v1 v2 v3 v4 v5 wd sz rl f rf sl cm x t y) (w' := [(h0, .inr (1, [.int (nI sz), v1, v2, v3, v4, v5, .int (nI wd), .ref a7, .ref a8, .ref a9])), (a, .inl (cI, 34, .inl f)), (a7, .inl (cI, rl, .inl rf)), (a8, .inl (cI, 4096, .inl sl)), (a9, .inl (cI, 3000, .inl cm))]) (k := (rl - rl) / 4800) (n := 2 * (rl - rl)) hx hb hr hlk hK hP hD hS (by show 0 ≤ 21; exact Nat.le_of_ble_eq_true rfl) (by show 0 ≤ 200800; exact Nat.le_of_ble_eq_true rfl) (by show 0 ≤ (rl - rl) / 4800; exact Nat.zero_le _) (by show 0 ≤ 2 * (rl - rl); exact Nat.zero_le _) dX1_add_11 rfl ⟨0, sz, a7, rl, rf, sl, cm, (by omega), hrl, (Or.inl rfl), (by omega), (by omega), hsl, hrw, hcm, rfl, rfl, rfl, rfl⟩
