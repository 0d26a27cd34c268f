theorem dX1_init_0 : decode cX1_init 0 = .ok (.aload_n 0, 1) := by decide +kernel
theorem dX1_init_1 : decode cX1_init 1 = .ok (.invokespecial 7, 3) := by decide +kernel
theorem dX1_init_10 : decode cX1_init 10 = .ok (.putfield 13, 3) := by decide +kernel
theorem dX1_init_13 : decode cX1_init 13 = .ok (.aload_n 0, 1) := by decide +kernel
theorem dX1_init_14 : decode cX1_init 14 = .ok (.bipush 38, 2) := by decide +kernel
theorem dX1_init_16 : decode cX1_init 16 = .ok (.newarray .int, 2) := by decide +kernel
theorem dX1_init_18 : decode cX1_init 18 = .ok (.putfield 17, 3) := by decide +kernel
theorem dX1_init_21 : decode cX1_init 21 = .ok (.aload_n 0, 1) := by decide +kernel
theorem dX1_init_22 : decode cX1_init 22 = .ok (.new 3, 3) := by decide +kernel
theorem dX1_init_25 : decode cX1_init 25 = .ok (.dup, 1) := by decide +kernel
theorem dX1_init_26 : decode cX1_init 26 = .ok (.invokespecial 20, 3) := by decide +kernel
theorem dX1_init_29 : decode cX1_init 29 = .ok (.putfield 21, 3) := by decide +kernel
theorem dX1_init_32 : decode cX1_init 32 = .ok (.aload_n 0, 1) := by decide +kernel
theorem dX1_init_33 : decode cX1_init 33 = .ok (.new 3, 3) := by decide +kernel
theorem dX1_init_36 : decode cX1_init 36 = .ok (.dup, 1) := by decide +kernel
theorem dX1_init_37 : decode cX1_init 37 = .ok (.invokespecial 20, 3) := by decide +kernel
theorem dX1_init_4 : decode cX1_init 4 = .ok (.aload_n 0, 1) := by decide +kernel
theorem dX1_init_40 : decode cX1_init 40 = .ok (.putfield 25, 3) := by decide +kernel
theorem dX1_init_43 : decode cX1_init 43 = .ok (.aload_n 0, 1) := by decide +kernel
theorem dX1_init_44 : decode cX1_init 44 = .ok (.bipush 34, 2) := by decide +kernel
theorem dX1_init_46 : decode cX1_init 46 = .ok (.putfield 28, 3) := by decide +kernel
theorem dX1_init_49 : decode cX1_init 49 = .ok (.aload_n 0, 1) := by decide +kernel
theorem dX1_init_5 : decode cX1_init 5 = .ok (.sipush 3000, 3) := by decide +kernel
theorem dX1_init_50 : decode cX1_init 50 = .ok (.sipush 1600, 3) := by decide +kernel
theorem dX1_init_53 : decode cX1_init 53 = .ok (.newarray .int, 2) := by decide +kernel
theorem dX1_init_55 : decode cX1_init 55 = .ok (.putfield 32, 3) := by decide +kernel
theorem dX1_init_58 : decode cX1_init 58 = .ok (.aload_n 0, 1) := by decide +kernel
theorem dX1_init_59 : decode cX1_init 59 = .ok (.sipush 4096, 3) := by decide +kernel
theorem dX1_init_62 : decode cX1_init 62 = .ok (.newarray .int, 2) := by decide +kernel
theorem dX1_init_64 : decode cX1_init 64 = .ok (.putfield 35, 3) := by decide +kernel
theorem dX1_init_67 : decode cX1_init 67 = .ok (.aload_n 0, 1) := by decide +kernel
theorem dX1_init_68 : decode cX1_init 68 = .ok (.sipush 3000, 3) := by decide +kernel
theorem dX1_init_71 : decode cX1_init 71 = .ok (.newarray .int, 2) := by decide +kernel
theorem dX1_init_73 : decode cX1_init 73 = .ok (.putfield 38, 3) := by decide +kernel
theorem dX1_init_76 : decode cX1_init 76 = .ok (.return_, 1) := by decide +kernel
theorem dX1_init_8 : decode cX1_init 8 = .ok (.newarray .int, 2) := by decide +kernel
theorem dX7_init_0 : decode cX7_init 0 = .ok (.aload_n 0, 1) := by decide +kernel
theorem dX7_init_1 : decode cX7_init 1 = .ok (.invokespecial 5, 3) := by decide +kernel
theorem dX7_init_12 : decode cX7_init 12 = .ok (.return_, 1) := by decide +kernel
theorem dX7_init_4 : decode cX7_init 4 = .ok (.aload_n 0, 1) := by decide +kernel
theorem dX7_init_5 : decode cX7_init 5 = .ok (.bipush 34, 2) := by decide +kernel
theorem dX7_init_7 : decode cX7_init 7 = .ok (.newarray .int, 2) := by decide +kernel
theorem dX7_init_9 : decode cX7_init 9 = .ok (.putfield 11, 3) := by decide +kernel
def wsP_c_X7_init : List Cond := .code yX7_init cX7_init 1 none :: ([.methodLink RX7 5 objectInit, .instanceMethod objectInit, .code objectInit ⟨#[0xb1]⟩ 1 none, .arrayClass .int, .fieldLink RX7 11 "LitmusHall$State" "words" "[I"] ++ wsX70)
set_option maxHeartbeats 4000000 in
set_option maxRecDepth 100000 in
theorem c_X7_init (l : Launch) (D : va_G) (cI cB cZ : ClassId) (h0 : Nat)  : gMv l yX7_init wsP_c_X7_init ({ frames := 1, cells := 1, slots := 34, locals := 12 }) D cI cB cZ [] [.ref h0] [(h0, .inr (7, [.null]))] (fun w9 => ∃ q1 : Nat, w9 = [(h0, .inr (7, [.ref q1])), (q1, .inl (cI, 34, .inl (fun _ => 0)))]) := by
  refine gMv.of (cc := cX7_init) (maxL := 1) (ret := none) (by decide) rfl (Nat.le_of_ble_eq_true rfl) (fun p e s m below meth c A ls hx hb hr hlk hml hts hown hin hA hP hK hD hS hN hl => ?_)
  have hown : s.vm.findClass RX7 = some m.cls := hown
  have hl : lv_has ls 1 [(0, .ref h0)] := hl
  refine lv_aload_n hx hb dX7_init_0 rfl (lv_at hl 0 rfl) ?_
  refine W.objInit hx hb hown (hts (.methodLink RX7 5 objectInit) (by decide +kernel)) (hts (.instanceMethod objectInit) (by decide +kernel)) (hts (.code objectInit ⟨#[0xb1]⟩ 1 none) (by decide +kernel)) rfl (by rw [hml]; exact hl.1) rfl dX7_init_1 (Nat.le_of_ble_eq_true rfl) (Nat.le_of_ble_eq_true rfl) ?_
  refine W.eq (g2 := F0 m 4 ls []) rfl ?_
  refine lv_aload_n hx hb dX7_init_4 rfl (lv_at hl 0 rfl) ?_
  refine lv_bipush (v := 34) hx hb dX7_init_5 (by decide) ?_
  refine gx_newI hx hb (hts (.arrayClass .int) (by decide +kernel)) hK hP hD hS hA 34 (by decide +kernel) (by decide +kernel) (by decide +kernel) (Nat.le_of_ble_eq_true rfl) (Nat.le_of_ble_eq_true rfl) dX7_init_7 (fun q1 H hP hD hS => ?_)
  have hP : va_P D vwCl [(h0, .inr (7, [.null])), (q1, .inl (cI, 34, .inl (fun _ => 0)))] H := hP
  have hD : va_D A [(h0, .inr (7, [.null])), (q1, .inl (cI, 34, .inl (fun _ => 0)))] := hD
  refine W.widen (k := 1) (n := 34) (Nat.le_of_ble_eq_true rfl) (Nat.le_of_ble_eq_true rfl) ?_
  refine va_putF (D := D) (ci := 7) (v := .ref q1) (ty := (.array .int)) (C := RX7) (T := TX7) (N := 1) hx hb hts (fun _ h => List.mem_cons_of_mem _ (List.mem_append_right _ h)) tyX7 tyX7_ok nmX7 hown hK hP hD hS 0 rfl rfl 0 (by decide) (hts (.fieldLink RX7 11 "LitmusHall$State" "words" "[I") (by decide +kernel)) (fun _ h9 => h9) rfl hin rfl (by decide +kernel) rfl rfl (Nat.le_of_ble_eq_true rfl) dX7_init_9 (fun H locs hP hD hS => ?_)
  have hP : va_P D vwCl [(h0, .inr (7, [.ref q1])), (q1, .inl (cI, 34, .inl (fun _ => 0)))] H := hP
  have hD : va_D A [(h0, .inr (7, [.ref q1])), (q1, .inl (cI, 34, .inl (fun _ => 0)))] := hD
  exact gx_vret hx hb hr hlk hK hP hD hS (Nat.le_of_ble_eq_true rfl) (Nat.le_of_ble_eq_true rfl) dX7_init_12 ⟨q1, rfl⟩
def wsP_c_X1_init : List Cond := .code yX1_init cX1_init 1 none :: ([.methodLink RX1 7 objectInit, .instanceMethod objectInit, .code objectInit ⟨#[0xb1]⟩ 1 none, .arrayClass .int, .fieldLink RX1 13 "LitmusHall$Explorer" "ends" "[I", .fieldLink RX1 17 "LitmusHall$Explorer" "path" "[I", .classLink RX1 3 RX7, .instantiable RX7 1, .initialized RX7, .methodLink RX7 5 objectInit, .fieldLink RX7 11 "LitmusHall$State" "words" "[I", .code yX7_init cX7_init 1 none, .instanceMethod yX7_init, .fieldLink RX1 21 "LitmusHall$Explorer" "state" "LLitmusHall$State;", .fieldLink RX1 25 "LitmusHall$Explorer" "moved" "LLitmusHall$State;", .fieldLink RX1 28 "LitmusHall$Explorer" "width" "I", .fieldLink RX1 32 "LitmusHall$Explorer" "rows" "[I", .fieldLink RX1 35 "LitmusHall$Explorer" "slots" "[I", .fieldLink RX1 38 "LitmusHall$Explorer" "came" "[I"] ++ wsX10 ++ wsX70)
set_option maxRecDepth 20000 in
theorem gP_c_X1_init__c_X7_init_n20 : GoodIn wsP_c_X1_init wsP_c_X7_init := goodIn_r _ [12, 10, 2, 3, 4, 11, 30] (by decide +kernel) (by decide +kernel)
set_option maxHeartbeats 4000000 in
set_option maxRecDepth 100000 in
theorem c_X1_init (l : Launch) (D : va_G) (cI cB cZ : ClassId) (h0 : Nat)  : gMv l yX1_init wsP_c_X1_init ({ frames := 2, cells := 9, slots := 11804, locals := 32 }) D cI cB cZ [(RX1, 20, yX7_init, "LitmusHall"), (RX1, 20, yX7_init, "LitmusHall")] [.ref h0] [(h0, .inr (1, [.int 0, .int 0, .null, .null, .null, .null, .int 0, .null, .null, .null]))] (fun w9 => ∃ q1 : Nat, ∃ q2 : Nat, ∃ q3 : Nat, ∃ q4 : Nat, ∃ q5 : Nat, ∃ q6 : Nat, ∃ q7 : Nat, ∃ q8 : Nat, ∃ q9 : Nat, w9 = [(h0, .inr (1, [.int 0, .int 0, .ref q1, .ref q2, .ref q3, .ref q5, .int 34, .ref q7, .ref q8, .ref q9])), (q1, .inl (cI, 3000, .inl (fun _ => 0))), (q2, .inl (cI, 38, .inl (fun _ => 0))), (q3, .inr (7, [.ref q4])), (q4, .inl (cI, 34, .inl (fun _ => 0))), (q5, .inr (7, [.ref q6])), (q6, .inl (cI, 34, .inl (fun _ => 0))), (q7, .inl (cI, 1600, .inl (fun _ => 0))), (q8, .inl (cI, 4096, .inl (fun _ => 0))), (q9, .inl (cI, 3000, .inl (fun _ => 0)))]) := by
  refine gMv.of (cc := cX1_init) (maxL := 1) (ret := none) (by decide) rfl (Nat.le_of_ble_eq_true rfl) (fun p e s m below meth c A ls hx hb hr hlk hml hts hown hin hA hP hK hD hS hN hl => ?_)
  have hown : s.vm.findClass RX1 = some m.cls := hown
  have hl : lv_has ls 1 [(0, .ref h0)] := hl
  refine lv_aload_n hx hb dX1_init_0 rfl (lv_at hl 0 rfl) ?_
  refine W.objInit hx hb hown (hts (.methodLink RX1 7 objectInit) (by decide +kernel)) (hts (.instanceMethod objectInit) (by decide +kernel)) (hts (.code objectInit ⟨#[0xb1]⟩ 1 none) (by decide +kernel)) rfl (by rw [hml]; exact hl.1) rfl dX1_init_1 (Nat.le_of_ble_eq_true rfl) (Nat.le_of_ble_eq_true rfl) ?_
  refine W.eq (g2 := F0 m 4 ls []) rfl ?_
  refine lv_aload_n hx hb dX1_init_4 rfl (lv_at hl 0 rfl) ?_
  refine lv_sipush (v := 3000) hx hb dX1_init_5 (by decide) ?_
  refine gx_newI hx hb (hts (.arrayClass .int) (by decide +kernel)) hK hP hD hS hA 3000 (by decide +kernel) (by decide +kernel) (by decide +kernel) (Nat.le_of_ble_eq_true rfl) (Nat.le_of_ble_eq_true rfl) dX1_init_8 (fun q1 H hP hD hS => ?_)
  have hP : va_P D vwCl [(h0, .inr (1, [.int 0, .int 0, .null, .null, .null, .null, .int 0, .null, .null, .null])), (q1, .inl (cI, 3000, .inl (fun _ => 0)))] H := hP
  have hD : va_D A [(h0, .inr (1, [.int 0, .int 0, .null, .null, .null, .null, .int 0, .null, .null, .null])), (q1, .inl (cI, 3000, .inl (fun _ => 0)))] := hD
  refine W.widen (k := 1) (n := 3000) (Nat.le_of_ble_eq_true rfl) (Nat.le_of_ble_eq_true rfl) ?_
  refine va_putF (D := D) (ci := 1) (v := .ref q1) (ty := (.array .int)) (C := RX1) (T := TX1) (N := 10) hx hb hts (fun _ h => List.mem_cons_of_mem _ (List.mem_append_left _ (List.mem_append_right _ h))) tyX1 tyX1_ok nmX1 hown hK hP hD hS 0 rfl rfl 2 (by decide) (hts (.fieldLink RX1 13 "LitmusHall$Explorer" "ends" "[I") (by decide +kernel)) (fun _ h9 => h9) rfl hin rfl (by decide +kernel) rfl rfl (Nat.le_of_ble_eq_true rfl) dX1_init_10 (fun H locs hP hD hS => ?_)
  have hP : va_P D vwCl [(h0, .inr (1, [.int 0, .int 0, .ref q1, .null, .null, .null, .int 0, .null, .null, .null])), (q1, .inl (cI, 3000, .inl (fun _ => 0)))] H := hP
  have hD : va_D A [(h0, .inr (1, [.int 0, .int 0, .ref q1, .null, .null, .null, .int 0, .null, .null, .null])), (q1, .inl (cI, 3000, .inl (fun _ => 0)))] := hD
  refine lv_aload_n hx hb dX1_init_13 rfl (lv_at hl 0 rfl) ?_
  refine lv_bipush (v := 38) hx hb dX1_init_14 (by decide) ?_
  refine gx_newI hx hb (hts (.arrayClass .int) (by decide +kernel)) hK hP hD hS hA 38 (by decide +kernel) (by decide +kernel) (by decide +kernel) (Nat.le_of_ble_eq_true rfl) (Nat.le_of_ble_eq_true rfl) dX1_init_16 (fun q2 H hP hD hS => ?_)
  have hP : va_P D vwCl [(h0, .inr (1, [.int 0, .int 0, .ref q1, .null, .null, .null, .int 0, .null, .null, .null])), (q1, .inl (cI, 3000, .inl (fun _ => 0))), (q2, .inl (cI, 38, .inl (fun _ => 0)))] H := hP
  have hD : va_D A [(h0, .inr (1, [.int 0, .int 0, .ref q1, .null, .null, .null, .int 0, .null, .null, .null])), (q1, .inl (cI, 3000, .inl (fun _ => 0))), (q2, .inl (cI, 38, .inl (fun _ => 0)))] := hD
  refine W.widen (k := 2) (n := 3038) (Nat.le_of_ble_eq_true rfl) (Nat.le_of_ble_eq_true rfl) ?_
  refine va_putF (D := D) (ci := 1) (v := .ref q2) (ty := (.array .int)) (C := RX1) (T := TX1) (N := 10) hx hb hts (fun _ h => List.mem_cons_of_mem _ (List.mem_append_left _ (List.mem_append_right _ h))) tyX1 tyX1_ok nmX1 hown hK hP hD hS 0 rfl rfl 3 (by decide) (hts (.fieldLink RX1 17 "LitmusHall$Explorer" "path" "[I") (by decide +kernel)) (fun _ h9 => h9) rfl hin rfl (by decide +kernel) rfl rfl (Nat.le_of_ble_eq_true rfl) dX1_init_18 (fun H locs hP hD hS => ?_)
  have hP : va_P D vwCl [(h0, .inr (1, [.int 0, .int 0, .ref q1, .ref q2, .null, .null, .int 0, .null, .null, .null])), (q1, .inl (cI, 3000, .inl (fun _ => 0))), (q2, .inl (cI, 38, .inl (fun _ => 0)))] H := hP
  have hD : va_D A [(h0, .inr (1, [.int 0, .int 0, .ref q1, .ref q2, .null, .null, .int 0, .null, .null, .null])), (q1, .inl (cI, 3000, .inl (fun _ => 0))), (q2, .inl (cI, 38, .inl (fun _ => 0)))] := hD
  refine lv_aload_n hx hb dX1_init_21 rfl (lv_at hl 0 rfl) ?_
  refine va_new (ci := 7) (fs := [.null]) (C := RX7) (T := TX7) (N := 1) hx hb hts (fun _ h => List.mem_cons_of_mem _ (List.mem_append_right _ h)) tyX7 tyX7_ok hown (hts (.classLink RX1 3 RX7) (by decide +kernel)) (hts (.instantiable RX7 1) (by decide +kernel)) (hts (.initialized RX7) (by decide +kernel)) hK hP hD hS hA rfl (by decide +kernel) (Nat.le_of_ble_eq_true rfl) (Nat.le_of_ble_eq_true rfl) dX1_init_22 (fun q3 H hP hD hS => ?_)
  have hP : va_P D vwCl [(h0, .inr (1, [.int 0, .int 0, .ref q1, .ref q2, .null, .null, .int 0, .null, .null, .null])), (q1, .inl (cI, 3000, .inl (fun _ => 0))), (q2, .inl (cI, 38, .inl (fun _ => 0))), (q3, .inr (7, [.null]))] H := hP
  have hD : va_D A [(h0, .inr (1, [.int 0, .int 0, .ref q1, .ref q2, .null, .null, .int 0, .null, .null, .null])), (q1, .inl (cI, 3000, .inl (fun _ => 0))), (q2, .inl (cI, 38, .inl (fun _ => 0))), (q3, .inr (7, [.null]))] := hD
  refine W.widen (k := 3) (n := 3039) (Nat.le_of_ble_eq_true rfl) (Nat.le_of_ble_eq_true rfl) ?_
  refine lv_dup hx hb dX1_init_25 rfl ?_
  refine gx_gov (wc := [(q3, .inr (7, [.null]))]) (wr := [(h0, .inr (1, [.int 0, .int 0, .ref q1, .ref q2, .null, .null, .int 0, .null, .null, .null])), (q1, .inl (cI, 3000, .inl (fun _ => 0))), (q2, .inl (cI, 38, .inl (fun _ => 0)))]) (va_runIN (As := []) (rest := [.ref q3, .ref h0]) ⟨hx, hb, hml, hown, hts⟩ (c_X7_init l D cI cB cZ q3 _) ⟨va_cnB 0 hts gP_c_X1_init__c_X7_init_n20 rfl rfl rfl (hN (RX1, 20, yX7_init, "LitmusHall") (by decide +kernel)) (hts (.initialized RX7) (by decide +kernel)) (by decide +kernel) ⟨Nat.le_of_ble_eq_true rfl, Nat.le_of_ble_eq_true rfl⟩, rfl, hts (.instanceMethod yX7_init) (by decide +kernel)⟩ (gx_preS hK gN.nil hP hD [3] rfl rfl) rfl rfl hl.1 rfl (lv_room (Nat.le_of_ble_eq_true rfl)) dX1_init_26 ⟨Nat.le_of_ble_eq_true rfl, Nat.le_of_ble_eq_true rfl⟩) hP hD hS hA [3] [0, 1, 2] rfl rfl rfl (by decide) (fun w1 H locs hp hP hD hS => ?_)
  obtain ⟨q4, rfl⟩ := hp
  have hP : va_P D vwCl [(h0, .inr (1, [.int 0, .int 0, .ref q1, .ref q2, .null, .null, .int 0, .null, .null, .null])), (q1, .inl (cI, 3000, .inl (fun _ => 0))), (q2, .inl (cI, 38, .inl (fun _ => 0))), (q3, .inr (7, [.ref q4])), (q4, .inl (cI, 34, .inl (fun _ => 0)))] H := hP
  have hD : va_D A [(h0, .inr (1, [.int 0, .int 0, .ref q1, .ref q2, .null, .null, .int 0, .null, .null, .null])), (q1, .inl (cI, 3000, .inl (fun _ => 0))), (q2, .inl (cI, 38, .inl (fun _ => 0))), (q3, .inr (7, [.ref q4])), (q4, .inl (cI, 34, .inl (fun _ => 0)))] := hD
  refine W.widen (k := 4) (n := 3073) (Nat.le_of_ble_eq_true rfl) (Nat.le_of_ble_eq_true rfl) ?_
  refine va_putF (D := D) (ci := 1) (v := .ref q3) (ty := (.object "LitmusHall$State")) (C := RX1) (T := TX1) (N := 10) hx hb hts (fun _ h => List.mem_cons_of_mem _ (List.mem_append_left _ (List.mem_append_right _ h))) tyX1 tyX1_ok nmX1 hown hK hP hD hS 0 rfl rfl 4 (by decide) (hts (.fieldLink RX1 21 "LitmusHall$Explorer" "state" "LLitmusHall$State;") (by decide +kernel)) (fun _ h9 => h9) rfl hin rfl (by decide +kernel) rfl rfl (Nat.le_of_ble_eq_true rfl) dX1_init_29 (fun H locs hP hD hS => ?_)
  have hP : va_P D vwCl [(h0, .inr (1, [.int 0, .int 0, .ref q1, .ref q2, .ref q3, .null, .int 0, .null, .null, .null])), (q1, .inl (cI, 3000, .inl (fun _ => 0))), (q2, .inl (cI, 38, .inl (fun _ => 0))), (q3, .inr (7, [.ref q4])), (q4, .inl (cI, 34, .inl (fun _ => 0)))] H := hP
  have hD : va_D A [(h0, .inr (1, [.int 0, .int 0, .ref q1, .ref q2, .ref q3, .null, .int 0, .null, .null, .null])), (q1, .inl (cI, 3000, .inl (fun _ => 0))), (q2, .inl (cI, 38, .inl (fun _ => 0))), (q3, .inr (7, [.ref q4])), (q4, .inl (cI, 34, .inl (fun _ => 0)))] := hD
  refine lv_aload_n hx hb dX1_init_32 rfl (lv_at hl 0 rfl) ?_
  refine va_new (ci := 7) (fs := [.null]) (C := RX7) (T := TX7) (N := 1) hx hb hts (fun _ h => List.mem_cons_of_mem _ (List.mem_append_right _ h)) tyX7 tyX7_ok hown (hts (.classLink RX1 3 RX7) (by decide +kernel)) (hts (.instantiable RX7 1) (by decide +kernel)) (hts (.initialized RX7) (by decide +kernel)) hK hP hD hS hA rfl (by decide +kernel) (Nat.le_of_ble_eq_true rfl) (Nat.le_of_ble_eq_true rfl) dX1_init_33 (fun q5 H hP hD hS => ?_)
  have hP : va_P D vwCl [(h0, .inr (1, [.int 0, .int 0, .ref q1, .ref q2, .ref q3, .null, .int 0, .null, .null, .null])), (q1, .inl (cI, 3000, .inl (fun _ => 0))), (q2, .inl (cI, 38, .inl (fun _ => 0))), (q3, .inr (7, [.ref q4])), (q4, .inl (cI, 34, .inl (fun _ => 0))), (q5, .inr (7, [.null]))] H := hP
  have hD : va_D A [(h0, .inr (1, [.int 0, .int 0, .ref q1, .ref q2, .ref q3, .null, .int 0, .null, .null, .null])), (q1, .inl (cI, 3000, .inl (fun _ => 0))), (q2, .inl (cI, 38, .inl (fun _ => 0))), (q3, .inr (7, [.ref q4])), (q4, .inl (cI, 34, .inl (fun _ => 0))), (q5, .inr (7, [.null]))] := hD
  refine W.widen (k := 5) (n := 3074) (Nat.le_of_ble_eq_true rfl) (Nat.le_of_ble_eq_true rfl) ?_
  refine lv_dup hx hb dX1_init_36 rfl ?_
  refine gx_gov (wc := [(q5, .inr (7, [.null]))]) (wr := [(h0, .inr (1, [.int 0, .int 0, .ref q1, .ref q2, .ref q3, .null, .int 0, .null, .null, .null])), (q1, .inl (cI, 3000, .inl (fun _ => 0))), (q2, .inl (cI, 38, .inl (fun _ => 0))), (q3, .inr (7, [.ref q4])), (q4, .inl (cI, 34, .inl (fun _ => 0)))]) (va_runIN (As := []) (rest := [.ref q5, .ref h0]) ⟨hx, hb, hml, hown, hts⟩ (c_X7_init l D cI cB cZ q5 _) ⟨va_cnB 0 hts gP_c_X1_init__c_X7_init_n20 rfl rfl rfl (hN (RX1, 20, yX7_init, "LitmusHall") (by decide +kernel)) (hts (.initialized RX7) (by decide +kernel)) (by decide +kernel) ⟨Nat.le_of_ble_eq_true rfl, Nat.le_of_ble_eq_true rfl⟩, rfl, hts (.instanceMethod yX7_init) (by decide +kernel)⟩ (gx_preS hK gN.nil hP hD [5] rfl rfl) rfl rfl hl.1 rfl (lv_room (Nat.le_of_ble_eq_true rfl)) dX1_init_37 ⟨Nat.le_of_ble_eq_true rfl, Nat.le_of_ble_eq_true rfl⟩) hP hD hS hA [5] [0, 1, 2, 3, 4] rfl rfl rfl (by decide) (fun w1 H locs hp hP hD hS => ?_)
  obtain ⟨q6, rfl⟩ := hp
  have hP : va_P D vwCl [(h0, .inr (1, [.int 0, .int 0, .ref q1, .ref q2, .ref q3, .null, .int 0, .null, .null, .null])), (q1, .inl (cI, 3000, .inl (fun _ => 0))), (q2, .inl (cI, 38, .inl (fun _ => 0))), (q3, .inr (7, [.ref q4])), (q4, .inl (cI, 34, .inl (fun _ => 0))), (q5, .inr (7, [.ref q6])), (q6, .inl (cI, 34, .inl (fun _ => 0)))] H := hP
  have hD : va_D A [(h0, .inr (1, [.int 0, .int 0, .ref q1, .ref q2, .ref q3, .null, .int 0, .null, .null, .null])), (q1, .inl (cI, 3000, .inl (fun _ => 0))), (q2, .inl (cI, 38, .inl (fun _ => 0))), (q3, .inr (7, [.ref q4])), (q4, .inl (cI, 34, .inl (fun _ => 0))), (q5, .inr (7, [.ref q6])), (q6, .inl (cI, 34, .inl (fun _ => 0)))] := hD
  refine W.widen (k := 6) (n := 3108) (Nat.le_of_ble_eq_true rfl) (Nat.le_of_ble_eq_true rfl) ?_
  refine va_putF (D := D) (ci := 1) (v := .ref q5) (ty := (.object "LitmusHall$State")) (C := RX1) (T := TX1) (N := 10) hx hb hts (fun _ h => List.mem_cons_of_mem _ (List.mem_append_left _ (List.mem_append_right _ h))) tyX1 tyX1_ok nmX1 hown hK hP hD hS 0 rfl rfl 5 (by decide) (hts (.fieldLink RX1 25 "LitmusHall$Explorer" "moved" "LLitmusHall$State;") (by decide +kernel)) (fun _ h9 => h9) rfl hin rfl (by decide +kernel) rfl rfl (Nat.le_of_ble_eq_true rfl) dX1_init_40 (fun H locs hP hD hS => ?_)
  have hP : va_P D vwCl [(h0, .inr (1, [.int 0, .int 0, .ref q1, .ref q2, .ref q3, .ref q5, .int 0, .null, .null, .null])), (q1, .inl (cI, 3000, .inl (fun _ => 0))), (q2, .inl (cI, 38, .inl (fun _ => 0))), (q3, .inr (7, [.ref q4])), (q4, .inl (cI, 34, .inl (fun _ => 0))), (q5, .inr (7, [.ref q6])), (q6, .inl (cI, 34, .inl (fun _ => 0)))] H := hP
  have hD : va_D A [(h0, .inr (1, [.int 0, .int 0, .ref q1, .ref q2, .ref q3, .ref q5, .int 0, .null, .null, .null])), (q1, .inl (cI, 3000, .inl (fun _ => 0))), (q2, .inl (cI, 38, .inl (fun _ => 0))), (q3, .inr (7, [.ref q4])), (q4, .inl (cI, 34, .inl (fun _ => 0))), (q5, .inr (7, [.ref q6])), (q6, .inl (cI, 34, .inl (fun _ => 0)))] := hD
  refine lv_aload_n hx hb dX1_init_43 rfl (lv_at hl 0 rfl) ?_
  refine lv_bipush (v := 34) hx hb dX1_init_44 (by decide) ?_
  refine va_put (D := D) (ci := 1) (v := .int 34) (ty := .int) (C := RX1) (T := TX1) (N := 10) hx hb hts (fun _ h => List.mem_cons_of_mem _ (List.mem_append_left _ (List.mem_append_right _ h))) tyX1 tyX1_ok nmX1 hown hK hP hD hS 0 rfl rfl 6 (by decide) (hts (.fieldLink RX1 28 "LitmusHall$Explorer" "width" "I") (by decide +kernel)) (fun _ h9 => h9) rfl (by decide +kernel) rfl rfl (Nat.le_of_ble_eq_true rfl) dX1_init_46 (fun H locs hP hD hS => ?_)
  have hP : va_P D vwCl [(h0, .inr (1, [.int 0, .int 0, .ref q1, .ref q2, .ref q3, .ref q5, .int 34, .null, .null, .null])), (q1, .inl (cI, 3000, .inl (fun _ => 0))), (q2, .inl (cI, 38, .inl (fun _ => 0))), (q3, .inr (7, [.ref q4])), (q4, .inl (cI, 34, .inl (fun _ => 0))), (q5, .inr (7, [.ref q6])), (q6, .inl (cI, 34, .inl (fun _ => 0)))] H := hP
  have hD : va_D A [(h0, .inr (1, [.int 0, .int 0, .ref q1, .ref q2, .ref q3, .ref q5, .int 34, .null, .null, .null])), (q1, .inl (cI, 3000, .inl (fun _ => 0))), (q2, .inl (cI, 38, .inl (fun _ => 0))), (q3, .inr (7, [.ref q4])), (q4, .inl (cI, 34, .inl (fun _ => 0))), (q5, .inr (7, [.ref q6])), (q6, .inl (cI, 34, .inl (fun _ => 0)))] := hD
  refine lv_aload_n hx hb dX1_init_49 rfl (lv_at hl 0 rfl) ?_
  refine lv_sipush (v := 1600) hx hb dX1_init_50 (by decide) ?_
  refine gx_newI hx hb (hts (.arrayClass .int) (by decide +kernel)) hK hP hD hS hA 1600 (by decide +kernel) (by decide +kernel) (by decide +kernel) (Nat.le_of_ble_eq_true rfl) (Nat.le_of_ble_eq_true rfl) dX1_init_53 (fun q7 H hP hD hS => ?_)
  have hP : va_P D vwCl [(h0, .inr (1, [.int 0, .int 0, .ref q1, .ref q2, .ref q3, .ref q5, .int 34, .null, .null, .null])), (q1, .inl (cI, 3000, .inl (fun _ => 0))), (q2, .inl (cI, 38, .inl (fun _ => 0))), (q3, .inr (7, [.ref q4])), (q4, .inl (cI, 34, .inl (fun _ => 0))), (q5, .inr (7, [.ref q6])), (q6, .inl (cI, 34, .inl (fun _ => 0))), (q7, .inl (cI, 1600, .inl (fun _ => 0)))] H := hP
  have hD : va_D A [(h0, .inr (1, [.int 0, .int 0, .ref q1, .ref q2, .ref q3, .ref q5, .int 34, .null, .null, .null])), (q1, .inl (cI, 3000, .inl (fun _ => 0))), (q2, .inl (cI, 38, .inl (fun _ => 0))), (q3, .inr (7, [.ref q4])), (q4, .inl (cI, 34, .inl (fun _ => 0))), (q5, .inr (7, [.ref q6])), (q6, .inl (cI, 34, .inl (fun _ => 0))), (q7, .inl (cI, 1600, .inl (fun _ => 0)))] := hD
  refine W.widen (k := 7) (n := 4708) (Nat.le_of_ble_eq_true rfl) (Nat.le_of_ble_eq_true rfl) ?_
  refine va_put (D := D) (ci := 1) (v := .ref q7) (ty := (.array .int)) (C := RX1) (T := TX1) (N := 10) hx hb hts (fun _ h => List.mem_cons_of_mem _ (List.mem_append_left _ (List.mem_append_right _ h))) tyX1 tyX1_ok nmX1 hown hK hP hD hS 0 rfl rfl 7 (by decide) (hts (.fieldLink RX1 32 "LitmusHall$Explorer" "rows" "[I") (by decide +kernel)) (fun _ h9 => h9) rfl (by decide +kernel) rfl rfl (Nat.le_of_ble_eq_true rfl) dX1_init_55 (fun H locs hP hD hS => ?_)
  have hP : va_P D vwCl [(h0, .inr (1, [.int 0, .int 0, .ref q1, .ref q2, .ref q3, .ref q5, .int 34, .ref q7, .null, .null])), (q1, .inl (cI, 3000, .inl (fun _ => 0))), (q2, .inl (cI, 38, .inl (fun _ => 0))), (q3, .inr (7, [.ref q4])), (q4, .inl (cI, 34, .inl (fun _ => 0))), (q5, .inr (7, [.ref q6])), (q6, .inl (cI, 34, .inl (fun _ => 0))), (q7, .inl (cI, 1600, .inl (fun _ => 0)))] H := hP
  have hD : va_D A [(h0, .inr (1, [.int 0, .int 0, .ref q1, .ref q2, .ref q3, .ref q5, .int 34, .ref q7, .null, .null])), (q1, .inl (cI, 3000, .inl (fun _ => 0))), (q2, .inl (cI, 38, .inl (fun _ => 0))), (q3, .inr (7, [.ref q4])), (q4, .inl (cI, 34, .inl (fun _ => 0))), (q5, .inr (7, [.ref q6])), (q6, .inl (cI, 34, .inl (fun _ => 0))), (q7, .inl (cI, 1600, .inl (fun _ => 0)))] := hD
  refine lv_aload_n hx hb dX1_init_58 rfl (lv_at hl 0 rfl) ?_
  refine lv_sipush (v := 4096) hx hb dX1_init_59 (by decide) ?_
  refine gx_newI hx hb (hts (.arrayClass .int) (by decide +kernel)) hK hP hD hS hA 4096 (by decide +kernel) (by decide +kernel) (by decide +kernel) (Nat.le_of_ble_eq_true rfl) (Nat.le_of_ble_eq_true rfl) dX1_init_62 (fun q8 H hP hD hS => ?_)
  have hP : va_P D vwCl [(h0, .inr (1, [.int 0, .int 0, .ref q1, .ref q2, .ref q3, .ref q5, .int 34, .ref q7, .null, .null])), (q1, .inl (cI, 3000, .inl (fun _ => 0))), (q2, .inl (cI, 38, .inl (fun _ => 0))), (q3, .inr (7, [.ref q4])), (q4, .inl (cI, 34, .inl (fun _ => 0))), (q5, .inr (7, [.ref q6])), (q6, .inl (cI, 34, .inl (fun _ => 0))), (q7, .inl (cI, 1600, .inl (fun _ => 0))), (q8, .inl (cI, 4096, .inl (fun _ => 0)))] H := hP
  have hD : va_D A [(h0, .inr (1, [.int 0, .int 0, .ref q1, .ref q2, .ref q3, .ref q5, .int 34, .ref q7, .null, .null])), (q1, .inl (cI, 3000, .inl (fun _ => 0))), (q2, .inl (cI, 38, .inl (fun _ => 0))), (q3, .inr (7, [.ref q4])), (q4, .inl (cI, 34, .inl (fun _ => 0))), (q5, .inr (7, [.ref q6])), (q6, .inl (cI, 34, .inl (fun _ => 0))), (q7, .inl (cI, 1600, .inl (fun _ => 0))), (q8, .inl (cI, 4096, .inl (fun _ => 0)))] := hD
  refine W.widen (k := 8) (n := 8804) (Nat.le_of_ble_eq_true rfl) (Nat.le_of_ble_eq_true rfl) ?_
  refine va_putF (D := D) (ci := 1) (v := .ref q8) (ty := (.array .int)) (C := RX1) (T := TX1) (N := 10) hx hb hts (fun _ h => List.mem_cons_of_mem _ (List.mem_append_left _ (List.mem_append_right _ h))) tyX1 tyX1_ok nmX1 hown hK hP hD hS 0 rfl rfl 8 (by decide) (hts (.fieldLink RX1 35 "LitmusHall$Explorer" "slots" "[I") (by decide +kernel)) (fun _ h9 => h9) rfl hin rfl (by decide +kernel) rfl rfl (Nat.le_of_ble_eq_true rfl) dX1_init_64 (fun H locs hP hD hS => ?_)
  have hP : va_P D vwCl [(h0, .inr (1, [.int 0, .int 0, .ref q1, .ref q2, .ref q3, .ref q5, .int 34, .ref q7, .ref q8, .null])), (q1, .inl (cI, 3000, .inl (fun _ => 0))), (q2, .inl (cI, 38, .inl (fun _ => 0))), (q3, .inr (7, [.ref q4])), (q4, .inl (cI, 34, .inl (fun _ => 0))), (q5, .inr (7, [.ref q6])), (q6, .inl (cI, 34, .inl (fun _ => 0))), (q7, .inl (cI, 1600, .inl (fun _ => 0))), (q8, .inl (cI, 4096, .inl (fun _ => 0)))] H := hP
  have hD : va_D A [(h0, .inr (1, [.int 0, .int 0, .ref q1, .ref q2, .ref q3, .ref q5, .int 34, .ref q7, .ref q8, .null])), (q1, .inl (cI, 3000, .inl (fun _ => 0))), (q2, .inl (cI, 38, .inl (fun _ => 0))), (q3, .inr (7, [.ref q4])), (q4, .inl (cI, 34, .inl (fun _ => 0))), (q5, .inr (7, [.ref q6])), (q6, .inl (cI, 34, .inl (fun _ => 0))), (q7, .inl (cI, 1600, .inl (fun _ => 0))), (q8, .inl (cI, 4096, .inl (fun _ => 0)))] := hD
  refine lv_aload_n hx hb dX1_init_67 rfl (lv_at hl 0 rfl) ?_
  refine lv_sipush (v := 3000) hx hb dX1_init_68 (by decide) ?_
  refine gx_newI hx hb (hts (.arrayClass .int) (by decide +kernel)) hK hP hD hS hA 3000 (by decide +kernel) (by decide +kernel) (by decide +kernel) (Nat.le_of_ble_eq_true rfl) (Nat.le_of_ble_eq_true rfl) dX1_init_71 (fun q9 H hP hD hS => ?_)
  have hP : va_P D vwCl [(h0, .inr (1, [.int 0, .int 0, .ref q1, .ref q2, .ref q3, .ref q5, .int 34, .ref q7, .ref q8, .null])), (q1, .inl (cI, 3000, .inl (fun _ => 0))), (q2, .inl (cI, 38, .inl (fun _ => 0))), (q3, .inr (7, [.ref q4])), (q4, .inl (cI, 34, .inl (fun _ => 0))), (q5, .inr (7, [.ref q6])), (q6, .inl (cI, 34, .inl (fun _ => 0))), (q7, .inl (cI, 1600, .inl (fun _ => 0))), (q8, .inl (cI, 4096, .inl (fun _ => 0))), (q9, .inl (cI, 3000, .inl (fun _ => 0)))] H := hP
  have hD : va_D A [(h0, .inr (1, [.int 0, .int 0, .ref q1, .ref q2, .ref q3, .ref q5, .int 34, .ref q7, .ref q8, .null])), (q1, .inl (cI, 3000, .inl (fun _ => 0))), (q2, .inl (cI, 38, .inl (fun _ => 0))), (q3, .inr (7, [.ref q4])), (q4, .inl (cI, 34, .inl (fun _ => 0))), (q5, .inr (7, [.ref q6])), (q6, .inl (cI, 34, .inl (fun _ => 0))), (q7, .inl (cI, 1600, .inl (fun _ => 0))), (q8, .inl (cI, 4096, .inl (fun _ => 0))), (q9, .inl (cI, 3000, .inl (fun _ => 0)))] := hD
  refine W.widen (k := 9) (n := 11804) (Nat.le_of_ble_eq_true rfl) (Nat.le_of_ble_eq_true rfl) ?_
  refine va_putF (D := D) (ci := 1) (v := .ref q9) (ty := (.array .int)) (C := RX1) (T := TX1) (N := 10) hx hb hts (fun _ h => List.mem_cons_of_mem _ (List.mem_append_left _ (List.mem_append_right _ h))) tyX1 tyX1_ok nmX1 hown hK hP hD hS 0 rfl rfl 9 (by decide) (hts (.fieldLink RX1 38 "LitmusHall$Explorer" "came" "[I") (by decide +kernel)) (fun _ h9 => h9) rfl hin rfl (by decide +kernel) rfl rfl (Nat.le_of_ble_eq_true rfl) dX1_init_73 (fun H locs hP hD hS => ?_)
  have hP : va_P D vwCl [(h0, .inr (1, [.int 0, .int 0, .ref q1, .ref q2, .ref q3, .ref q5, .int 34, .ref q7, .ref q8, .ref q9])), (q1, .inl (cI, 3000, .inl (fun _ => 0))), (q2, .inl (cI, 38, .inl (fun _ => 0))), (q3, .inr (7, [.ref q4])), (q4, .inl (cI, 34, .inl (fun _ => 0))), (q5, .inr (7, [.ref q6])), (q6, .inl (cI, 34, .inl (fun _ => 0))), (q7, .inl (cI, 1600, .inl (fun _ => 0))), (q8, .inl (cI, 4096, .inl (fun _ => 0))), (q9, .inl (cI, 3000, .inl (fun _ => 0)))] H := hP
  have hD : va_D A [(h0, .inr (1, [.int 0, .int 0, .ref q1, .ref q2, .ref q3, .ref q5, .int 34, .ref q7, .ref q8, .ref q9])), (q1, .inl (cI, 3000, .inl (fun _ => 0))), (q2, .inl (cI, 38, .inl (fun _ => 0))), (q3, .inr (7, [.ref q4])), (q4, .inl (cI, 34, .inl (fun _ => 0))), (q5, .inr (7, [.ref q6])), (q6, .inl (cI, 34, .inl (fun _ => 0))), (q7, .inl (cI, 1600, .inl (fun _ => 0))), (q8, .inl (cI, 4096, .inl (fun _ => 0))), (q9, .inl (cI, 3000, .inl (fun _ => 0)))] := hD
  exact gx_vret hx hb hr hlk hK hP hD hS (Nat.le_of_ble_eq_true rfl) (Nat.le_of_ble_eq_true rfl) dX1_init_76 ⟨q1, q2, q3, q4, q5, q6, q7, q8, q9, rfl⟩
