theorem dX0_init_0 : decode cX0_init 0 = .ok (.aload_n 0, 1) := by decide +kernel
theorem dX0_init_1 : decode cX0_init 1 = .ok (.invokespecial 3, 3) := by decide +kernel
theorem dX0_init_12 : decode cX0_init 12 = .ok (.putfield 12, 3) := by decide +kernel
theorem dX0_init_15 : decode cX0_init 15 = .ok (.aload_n 0, 1) := by decide +kernel
theorem dX0_init_16 : decode cX0_init 16 = .ok (.iconst (-1), 1) := by decide +kernel
theorem dX0_init_17 : decode cX0_init 17 = .ok (.putfield 18, 3) := by decide +kernel
theorem dX0_init_20 : decode cX0_init 20 = .ok (.aload_n 0, 1) := by decide +kernel
theorem dX0_init_21 : decode cX0_init 21 = .ok (.iconst 2, 1) := by decide +kernel
theorem dX0_init_22 : decode cX0_init 22 = .ok (.newarray .int, 2) := by decide +kernel
theorem dX0_init_24 : decode cX0_init 24 = .ok (.putfield 22, 3) := by decide +kernel
theorem dX0_init_27 : decode cX0_init 27 = .ok (.aload_n 0, 1) := by decide +kernel
theorem dX0_init_28 : decode cX0_init 28 = .ok (.iconst 2, 1) := by decide +kernel
theorem dX0_init_29 : decode cX0_init 29 = .ok (.newarray .int, 2) := by decide +kernel
theorem dX0_init_31 : decode cX0_init 31 = .ok (.putfield 26, 3) := by decide +kernel
theorem dX0_init_34 : decode cX0_init 34 = .ok (.return_, 1) := by decide +kernel
theorem dX0_init_4 : decode cX0_init 4 = .ok (.aload_n 0, 1) := by decide +kernel
theorem dX0_init_5 : decode cX0_init 5 = .ok (.new 9, 3) := by decide +kernel
theorem dX0_init_8 : decode cX0_init 8 = .ok (.dup, 1) := by decide +kernel
theorem dX0_init_9 : decode cX0_init 9 = .ok (.invokespecial 11, 3) := by decide +kernel
theorem dX3_init_0 : decode cX3_init 0 = .ok (.aload_n 0, 1) := by decide +kernel
theorem dX3_init_1 : decode cX3_init 1 = .ok (.invokespecial 3, 3) := by decide +kernel
theorem dX3_init_12 : decode cX3_init 12 = .ok (.putfield 12, 3) := by decide +kernel
theorem dX3_init_15 : decode cX3_init 15 = .ok (.aload_n 0, 1) := by decide +kernel
theorem dX3_init_16 : decode cX3_init 16 = .ok (.bipush 38, 2) := by decide +kernel
theorem dX3_init_18 : decode cX3_init 18 = .ok (.newarray .int, 2) := by decide +kernel
theorem dX3_init_20 : decode cX3_init 20 = .ok (.putfield 18, 3) := by decide +kernel
theorem dX3_init_23 : decode cX3_init 23 = .ok (.return_, 1) := by decide +kernel
theorem dX3_init_4 : decode cX3_init 4 = .ok (.aload_n 0, 1) := by decide +kernel
theorem dX3_init_5 : decode cX3_init 5 = .ok (.new 9, 3) := by decide +kernel
theorem dX3_init_8 : decode cX3_init 8 = .ok (.dup, 1) := by decide +kernel
theorem dX3_init_9 : decode cX3_init 9 = .ok (.invokespecial 11, 3) := by decide +kernel
theorem dX6_init_0 : decode cX6_init 0 = .ok (.aload_n 0, 1) := by decide +kernel
theorem dX6_init_1 : decode cX6_init 1 = .ok (.invokespecial 3, 3) := by decide +kernel
theorem dX6_init_12 : decode cX6_init 12 = .ok (.putfield 12, 3) := by decide +kernel
theorem dX6_init_15 : decode cX6_init 15 = .ok (.aload_n 0, 1) := by decide +kernel
theorem dX6_init_16 : decode cX6_init 16 = .ok (.iconst (-1), 1) := by decide +kernel
theorem dX6_init_17 : decode cX6_init 17 = .ok (.putfield 18, 3) := by decide +kernel
theorem dX6_init_20 : decode cX6_init 20 = .ok (.aload_n 0, 1) := by decide +kernel
theorem dX6_init_21 : decode cX6_init 21 = .ok (.sipush 501, 3) := by decide +kernel
theorem dX6_init_24 : decode cX6_init 24 = .ok (.newarray .int, 2) := by decide +kernel
theorem dX6_init_26 : decode cX6_init 26 = .ok (.putfield 22, 3) := by decide +kernel
theorem dX6_init_29 : decode cX6_init 29 = .ok (.aload_n 0, 1) := by decide +kernel
theorem dX6_init_30 : decode cX6_init 30 = .ok (.sipush 501, 3) := by decide +kernel
theorem dX6_init_33 : decode cX6_init 33 = .ok (.newarray .int, 2) := by decide +kernel
theorem dX6_init_35 : decode cX6_init 35 = .ok (.putfield 26, 3) := by decide +kernel
theorem dX6_init_38 : decode cX6_init 38 = .ok (.aload_n 0, 1) := by decide +kernel
theorem dX6_init_39 : decode cX6_init 39 = .ok (.sipush 501, 3) := by decide +kernel
theorem dX6_init_4 : decode cX6_init 4 = .ok (.aload_n 0, 1) := by decide +kernel
theorem dX6_init_42 : decode cX6_init 42 = .ok (.newarray .int, 2) := by decide +kernel
theorem dX6_init_44 : decode cX6_init 44 = .ok (.putfield 29, 3) := by decide +kernel
theorem dX6_init_47 : decode cX6_init 47 = .ok (.aload_n 0, 1) := by decide +kernel
theorem dX6_init_48 : decode cX6_init 48 = .ok (.bipush 6, 2) := by decide +kernel
theorem dX6_init_5 : decode cX6_init 5 = .ok (.new 9, 3) := by decide +kernel
theorem dX6_init_50 : decode cX6_init 50 = .ok (.newarray .int, 2) := by decide +kernel
theorem dX6_init_52 : decode cX6_init 52 = .ok (.putfield 32, 3) := by decide +kernel
theorem dX6_init_55 : decode cX6_init 55 = .ok (.return_, 1) := by decide +kernel
theorem dX6_init_8 : decode cX6_init 8 = .ok (.dup, 1) := by decide +kernel
theorem dX6_init_9 : decode cX6_init 9 = .ok (.invokespecial 11, 3) := by decide +kernel
def wsP_c_X3_init : List Cond := .code yX3_init cX3_init 1 none :: ([.methodLink RX3 3 objectInit, .instanceMethod objectInit, .code objectInit ⟨#[0xb1]⟩ 1 none, .classLink RX3 9 RX7, .instantiable RX7 1, .initialized RX7, .methodLink RX7 5 objectInit, .arrayClass .int, .fieldLink RX7 11 "LitmusHall$State" "words" "[I", .code yX7_init cX7_init 1 none, .instanceMethod yX7_init, .fieldLink RX3 12 "LitmusHall$Machine" "state" "LLitmusHall$State;", .fieldLink RX3 18 "LitmusHall$Machine" "done" "[I"] ++ wsX70 ++ wsX30)
set_option maxRecDepth 20000 in
theorem gP_c_X3_init__c_X7_init_n11 : GoodIn wsP_c_X3_init wsP_c_X7_init := goodIn_r _ [10, 7, 2, 3, 8, 9, 14] (by decide +kernel) (by decide +kernel)
set_option maxHeartbeats 4000000 in
set_option maxRecDepth 100000 in
theorem c_X3_init (l : Launch) (D : va_G) (cI cB cZ : ClassId) (h0 : Nat)  : gMv l yX3_init wsP_c_X3_init ({ frames := 2, cells := 3, slots := 73, locals := 32 }) D cI cB cZ [(RX3, 11, yX7_init, "LitmusHall")] [.ref h0] [(h0, .inr (3, [.null, .int 0, .int 0, .int 0, .null]))] (fun w9 => ∃ q1 : Nat, ∃ q2 : Nat, ∃ q3 : Nat, w9 = [(h0, .inr (3, [.ref q1, .int 0, .int 0, .int 0, .ref q3])), (q1, .inr (7, [.ref q2])), (q2, .inl (cI, 34, .inl (fun _ => 0))), (q3, .inl (cI, 38, .inl (fun _ => 0)))]) := by
  refine gMv.of (cc := cX3_init) (maxL := 1) (ret := none) (by decide) rfl (Nat.le_of_ble_eq_true rfl) (fun p e s m below meth c A ls hx hb hr hlk hml hts hown hin hA hP hK hD hS hN hl => ?_)
  have hown : s.vm.findClass RX3 = some m.cls := hown
  have hl : lv_has ls 1 [(0, .ref h0)] := hl
  refine lv_aload_n hx hb dX3_init_0 rfl (lv_at hl 0 rfl) ?_
  refine W.objInit hx hb hown (hts (.methodLink RX3 3 objectInit) (by decide +kernel)) (hts (.instanceMethod objectInit) (by decide +kernel)) (hts (.code objectInit ⟨#[0xb1]⟩ 1 none) (by decide +kernel)) rfl (by rw [hml]; exact hl.1) rfl dX3_init_1 (Nat.le_of_ble_eq_true rfl) (Nat.le_of_ble_eq_true rfl) ?_
  refine W.eq (g2 := F0 m 4 ls []) rfl ?_
  refine lv_aload_n hx hb dX3_init_4 rfl (lv_at hl 0 rfl) ?_
  refine va_new (ci := 7) (fs := [.null]) (C := RX7) (T := TX7) (N := 1) hx hb hts (fun _ h => List.mem_cons_of_mem _ (List.mem_append_left _ (List.mem_append_right _ h))) tyX7 tyX7_ok hown (hts (.classLink RX3 9 RX7) (by decide +kernel)) (hts (.instantiable RX7 1) (by decide +kernel)) (hts (.initialized RX7) (by decide +kernel)) hK hP hD hS hA rfl (by decide +kernel) (Nat.le_of_ble_eq_true rfl) (Nat.le_of_ble_eq_true rfl) dX3_init_5 (fun q1 H hP hD hS => ?_)
  have hP : va_P D vwCl [(h0, .inr (3, [.null, .int 0, .int 0, .int 0, .null])), (q1, .inr (7, [.null]))] H := hP
  have hD : va_D A [(h0, .inr (3, [.null, .int 0, .int 0, .int 0, .null])), (q1, .inr (7, [.null]))] := hD
  refine W.widen (k := 1) (n := 1) (Nat.le_of_ble_eq_true rfl) (Nat.le_of_ble_eq_true rfl) ?_
  refine lv_dup hx hb dX3_init_8 rfl ?_
  refine gx_gov (wc := [(q1, .inr (7, [.null]))]) (wr := [(h0, .inr (3, [.null, .int 0, .int 0, .int 0, .null]))]) (va_runIN (As := []) (rest := [.ref q1, .ref h0]) ⟨hx, hb, hml, hown, hts⟩ (c_X7_init l D cI cB cZ q1 _) ⟨va_cnB 0 hts gP_c_X3_init__c_X7_init_n11 rfl rfl rfl (hN (RX3, 11, yX7_init, "LitmusHall") (by decide +kernel)) (hts (.initialized RX7) (by decide +kernel)) (by decide +kernel) ⟨Nat.le_of_ble_eq_true rfl, Nat.le_of_ble_eq_true rfl⟩, rfl, hts (.instanceMethod yX7_init) (by decide +kernel)⟩ (gx_preS hK gN.nil hP hD [1] rfl rfl) rfl rfl hl.1 rfl (lv_room (Nat.le_of_ble_eq_true rfl)) dX3_init_9 ⟨Nat.le_of_ble_eq_true rfl, Nat.le_of_ble_eq_true rfl⟩) hP hD hS hA [1] [0] rfl rfl rfl (by decide) (fun w1 H locs hp hP hD hS => ?_)
  obtain ⟨q2, rfl⟩ := hp
  have hP : va_P D vwCl [(h0, .inr (3, [.null, .int 0, .int 0, .int 0, .null])), (q1, .inr (7, [.ref q2])), (q2, .inl (cI, 34, .inl (fun _ => 0)))] H := hP
  have hD : va_D A [(h0, .inr (3, [.null, .int 0, .int 0, .int 0, .null])), (q1, .inr (7, [.ref q2])), (q2, .inl (cI, 34, .inl (fun _ => 0)))] := hD
  refine W.widen (k := 2) (n := 35) (Nat.le_of_ble_eq_true rfl) (Nat.le_of_ble_eq_true rfl) ?_
  refine va_putF (D := D) (ci := 3) (v := .ref q1) (ty := (.object "LitmusHall$State")) (C := RX3) (T := TX3) (N := 5) hx hb hts (fun _ h => List.mem_cons_of_mem _ (List.mem_append_right _ h)) tyX3 tyX3_ok nmX3 hown hK hP hD hS 0 rfl rfl 0 (by decide) (hts (.fieldLink RX3 12 "LitmusHall$Machine" "state" "LLitmusHall$State;") (by decide +kernel)) (fun _ h9 => h9) rfl hin rfl (by decide +kernel) rfl rfl (Nat.le_of_ble_eq_true rfl) dX3_init_12 (fun H locs hP hD hS => ?_)
  have hP : va_P D vwCl [(h0, .inr (3, [.ref q1, .int 0, .int 0, .int 0, .null])), (q1, .inr (7, [.ref q2])), (q2, .inl (cI, 34, .inl (fun _ => 0)))] H := hP
  have hD : va_D A [(h0, .inr (3, [.ref q1, .int 0, .int 0, .int 0, .null])), (q1, .inr (7, [.ref q2])), (q2, .inl (cI, 34, .inl (fun _ => 0)))] := hD
  refine lv_aload_n hx hb dX3_init_15 rfl (lv_at hl 0 rfl) ?_
  refine lv_bipush (v := 38) hx hb dX3_init_16 (by decide) ?_
  refine gx_newI hx hb (hts (.arrayClass .int) (by decide +kernel)) hK hP hD hS hA 38 (by decide +kernel) (by decide +kernel) (by decide +kernel) (Nat.le_of_ble_eq_true rfl) (Nat.le_of_ble_eq_true rfl) dX3_init_18 (fun q3 H hP hD hS => ?_)
  have hP : va_P D vwCl [(h0, .inr (3, [.ref q1, .int 0, .int 0, .int 0, .null])), (q1, .inr (7, [.ref q2])), (q2, .inl (cI, 34, .inl (fun _ => 0))), (q3, .inl (cI, 38, .inl (fun _ => 0)))] H := hP
  have hD : va_D A [(h0, .inr (3, [.ref q1, .int 0, .int 0, .int 0, .null])), (q1, .inr (7, [.ref q2])), (q2, .inl (cI, 34, .inl (fun _ => 0))), (q3, .inl (cI, 38, .inl (fun _ => 0)))] := hD
  refine W.widen (k := 3) (n := 73) (Nat.le_of_ble_eq_true rfl) (Nat.le_of_ble_eq_true rfl) ?_
  refine va_putF (D := D) (ci := 3) (v := .ref q3) (ty := (.array .int)) (C := RX3) (T := TX3) (N := 5) hx hb hts (fun _ h => List.mem_cons_of_mem _ (List.mem_append_right _ h)) tyX3 tyX3_ok nmX3 hown hK hP hD hS 0 rfl rfl 4 (by decide) (hts (.fieldLink RX3 18 "LitmusHall$Machine" "done" "[I") (by decide +kernel)) (fun _ h9 => h9) rfl hin rfl (by decide +kernel) rfl rfl (Nat.le_of_ble_eq_true rfl) dX3_init_20 (fun H locs hP hD hS => ?_)
  have hP : va_P D vwCl [(h0, .inr (3, [.ref q1, .int 0, .int 0, .int 0, .ref q3])), (q1, .inr (7, [.ref q2])), (q2, .inl (cI, 34, .inl (fun _ => 0))), (q3, .inl (cI, 38, .inl (fun _ => 0)))] H := hP
  have hD : va_D A [(h0, .inr (3, [.ref q1, .int 0, .int 0, .int 0, .ref q3])), (q1, .inr (7, [.ref q2])), (q2, .inl (cI, 34, .inl (fun _ => 0))), (q3, .inl (cI, 38, .inl (fun _ => 0)))] := hD
  exact gx_vret hx hb hr hlk hK hP hD hS (Nat.le_of_ble_eq_true rfl) (Nat.le_of_ble_eq_true rfl) dX3_init_23 ⟨q1, q2, q3, rfl⟩
def wsP_c_X6_init : List Cond := .code yX6_init cX6_init 1 none :: ([.methodLink RX6 3 objectInit, .instanceMethod objectInit, .code objectInit ⟨#[0xb1]⟩ 1 none, .classLink RX6 9 RX4, .instantiable RX4 4, .initialized RX4, .methodLink RX4 3 objectInit, .arrayClass .int, .fieldLink RX4 9 "LitmusHall$Program" "lengths" "[I", .fieldLink RX4 15 "LitmusHall$Program" "cells" "[I", .fieldLink RX4 18 "LitmusHall$Program" "parts" "[I", .code yX4_init cX4_init 1 none, .instanceMethod yX4_init, .fieldLink RX6 12 "LitmusHall$Reader" "draft" "LLitmusHall$Program;", .fieldLink RX6 18 "LitmusHall$Reader" "place" "I", .fieldLink RX6 22 "LitmusHall$Reader" "kinds" "[I", .fieldLink RX6 26 "LitmusHall$Reader" "starts" "[I", .fieldLink RX6 29 "LitmusHall$Reader" "numbers" "[I", .fieldLink RX6 32 "LitmusHall$Reader" "skipTokens" "[I"] ++ wsX40 ++ wsX60)
set_option maxRecDepth 20000 in
theorem gP_c_X6_init__c_X4_init_n11 : GoodIn wsP_c_X6_init wsP_c_X4_init := goodIn_r _ [12, 7, 2, 3, 8, 9, 10, 11, 20, 21, 22, 23] (by decide +kernel) (by decide +kernel)
set_option maxHeartbeats 4000000 in
set_option maxRecDepth 100000 in
theorem c_X6_init (l : Launch) (D : va_G) (cI cB cZ : ClassId) (h0 : Nat)  : gMv l yX6_init wsP_c_X6_init ({ frames := 2, cells := 8, slots := 1712, locals := 32 }) D cI cB cZ [(RX6, 11, yX4_init, "LitmusHall")] [.ref h0] [(h0, .inr (6, [.null, .int 0, .int 0, .int 0, .null, .null, .null, .null, .int 0, .int 0, .int 0, .int 0]))] (fun w9 => ∃ q1 : Nat, ∃ q2 : Nat, ∃ q3 : Nat, ∃ q4 : Nat, ∃ q5 : Nat, ∃ q6 : Nat, ∃ q7 : Nat, ∃ q8 : Nat, w9 = [(h0, .inr (6, [.ref q1, .int (-1), .int 0, .int 0, .ref q5, .ref q6, .ref q7, .ref q8, .int 0, .int 0, .int 0, .int 0])), (q1, .inr (4, [.int 0, .ref q2, .ref q3, .ref q4])), (q2, .inl (cI, 3, .inl (fun _ => 0))), (q3, .inl (cI, 4, .inl (fun _ => 0))), (q4, .inl (cI, 192, .inl (fun _ => 0))), (q5, .inl (cI, 501, .inl (fun _ => 0))), (q6, .inl (cI, 501, .inl (fun _ => 0))), (q7, .inl (cI, 501, .inl (fun _ => 0))), (q8, .inl (cI, 6, .inl (fun _ => 0)))]) := by
  refine gMv.of (cc := cX6_init) (maxL := 1) (ret := none) (by decide) rfl (Nat.le_of_ble_eq_true rfl) (fun p e s m below meth c A ls hx hb hr hlk hml hts hown hin hA hP hK hD hS hN hl => ?_)
  have hown : s.vm.findClass RX6 = some m.cls := hown
  have hl : lv_has ls 1 [(0, .ref h0)] := hl
  refine lv_aload_n hx hb dX6_init_0 rfl (lv_at hl 0 rfl) ?_
  refine W.objInit hx hb hown (hts (.methodLink RX6 3 objectInit) (by decide +kernel)) (hts (.instanceMethod objectInit) (by decide +kernel)) (hts (.code objectInit ⟨#[0xb1]⟩ 1 none) (by decide +kernel)) rfl (by rw [hml]; exact hl.1) rfl dX6_init_1 (Nat.le_of_ble_eq_true rfl) (Nat.le_of_ble_eq_true rfl) ?_
  refine W.eq (g2 := F0 m 4 ls []) rfl ?_
  refine lv_aload_n hx hb dX6_init_4 rfl (lv_at hl 0 rfl) ?_
  refine va_new (ci := 4) (fs := [.int 0, .null, .null, .null]) (C := RX4) (T := TX4) (N := 4) hx hb hts (fun _ h => List.mem_cons_of_mem _ (List.mem_append_left _ (List.mem_append_right _ h))) tyX4 tyX4_ok hown (hts (.classLink RX6 9 RX4) (by decide +kernel)) (hts (.instantiable RX4 4) (by decide +kernel)) (hts (.initialized RX4) (by decide +kernel)) hK hP hD hS hA rfl (by decide +kernel) (Nat.le_of_ble_eq_true rfl) (Nat.le_of_ble_eq_true rfl) dX6_init_5 (fun q1 H hP hD hS => ?_)
  have hP : va_P D vwCl [(h0, .inr (6, [.null, .int 0, .int 0, .int 0, .null, .null, .null, .null, .int 0, .int 0, .int 0, .int 0])), (q1, .inr (4, [.int 0, .null, .null, .null]))] H := hP
  have hD : va_D A [(h0, .inr (6, [.null, .int 0, .int 0, .int 0, .null, .null, .null, .null, .int 0, .int 0, .int 0, .int 0])), (q1, .inr (4, [.int 0, .null, .null, .null]))] := hD
  refine W.widen (k := 1) (n := 4) (Nat.le_of_ble_eq_true rfl) (Nat.le_of_ble_eq_true rfl) ?_
  refine lv_dup hx hb dX6_init_8 rfl ?_
  refine gx_gov (wc := [(q1, .inr (4, [.int 0, .null, .null, .null]))]) (wr := [(h0, .inr (6, [.null, .int 0, .int 0, .int 0, .null, .null, .null, .null, .int 0, .int 0, .int 0, .int 0]))]) (va_runIN (As := []) (rest := [.ref q1, .ref h0]) ⟨hx, hb, hml, hown, hts⟩ (c_X4_init l D cI cB cZ q1 _) ⟨va_cnB 0 hts gP_c_X6_init__c_X4_init_n11 rfl rfl rfl (hN (RX6, 11, yX4_init, "LitmusHall") (by decide +kernel)) (hts (.initialized RX4) (by decide +kernel)) (by decide +kernel) ⟨Nat.le_of_ble_eq_true rfl, Nat.le_of_ble_eq_true rfl⟩, rfl, hts (.instanceMethod yX4_init) (by decide +kernel)⟩ (gx_preS hK gN.nil hP hD [1] rfl rfl) rfl rfl hl.1 rfl (lv_room (Nat.le_of_ble_eq_true rfl)) dX6_init_9 ⟨Nat.le_of_ble_eq_true rfl, Nat.le_of_ble_eq_true rfl⟩) hP hD hS hA [1] [0] rfl rfl rfl (by decide) (fun w1 H locs hp hP hD hS => ?_)
  obtain ⟨q2, q3, q4, rfl⟩ := hp
  have hP : va_P D vwCl [(h0, .inr (6, [.null, .int 0, .int 0, .int 0, .null, .null, .null, .null, .int 0, .int 0, .int 0, .int 0])), (q1, .inr (4, [.int 0, .ref q2, .ref q3, .ref q4])), (q2, .inl (cI, 3, .inl (fun _ => 0))), (q3, .inl (cI, 4, .inl (fun _ => 0))), (q4, .inl (cI, 192, .inl (fun _ => 0)))] H := hP
  have hD : va_D A [(h0, .inr (6, [.null, .int 0, .int 0, .int 0, .null, .null, .null, .null, .int 0, .int 0, .int 0, .int 0])), (q1, .inr (4, [.int 0, .ref q2, .ref q3, .ref q4])), (q2, .inl (cI, 3, .inl (fun _ => 0))), (q3, .inl (cI, 4, .inl (fun _ => 0))), (q4, .inl (cI, 192, .inl (fun _ => 0)))] := hD
  refine W.widen (k := 4) (n := 203) (Nat.le_of_ble_eq_true rfl) (Nat.le_of_ble_eq_true rfl) ?_
  refine va_put (D := D) (ci := 6) (v := .ref q1) (ty := (.object "LitmusHall$Program")) (C := RX6) (T := TX6) (N := 12) hx hb hts (fun _ h => List.mem_cons_of_mem _ (List.mem_append_right _ h)) tyX6 tyX6_ok nmX6 hown hK hP hD hS 0 rfl rfl 0 (by decide) (hts (.fieldLink RX6 12 "LitmusHall$Reader" "draft" "LLitmusHall$Program;") (by decide +kernel)) (fun _ h9 => h9) rfl (by decide +kernel) rfl rfl (Nat.le_of_ble_eq_true rfl) dX6_init_12 (fun H locs hP hD hS => ?_)
  have hP : va_P D vwCl [(h0, .inr (6, [.ref q1, .int 0, .int 0, .int 0, .null, .null, .null, .null, .int 0, .int 0, .int 0, .int 0])), (q1, .inr (4, [.int 0, .ref q2, .ref q3, .ref q4])), (q2, .inl (cI, 3, .inl (fun _ => 0))), (q3, .inl (cI, 4, .inl (fun _ => 0))), (q4, .inl (cI, 192, .inl (fun _ => 0)))] H := hP
  have hD : va_D A [(h0, .inr (6, [.ref q1, .int 0, .int 0, .int 0, .null, .null, .null, .null, .int 0, .int 0, .int 0, .int 0])), (q1, .inr (4, [.int 0, .ref q2, .ref q3, .ref q4])), (q2, .inl (cI, 3, .inl (fun _ => 0))), (q3, .inl (cI, 4, .inl (fun _ => 0))), (q4, .inl (cI, 192, .inl (fun _ => 0)))] := hD
  refine lv_aload_n hx hb dX6_init_15 rfl (lv_at hl 0 rfl) ?_
  refine lv_iconst (v := (-1)) hx hb dX6_init_16 (by decide) ?_
  refine va_put (D := D) (ci := 6) (v := .int (-1)) (ty := .int) (C := RX6) (T := TX6) (N := 12) hx hb hts (fun _ h => List.mem_cons_of_mem _ (List.mem_append_right _ h)) tyX6 tyX6_ok nmX6 hown hK hP hD hS 0 rfl rfl 1 (by decide) (hts (.fieldLink RX6 18 "LitmusHall$Reader" "place" "I") (by decide +kernel)) (fun _ h9 => h9) rfl (by decide +kernel) rfl rfl (Nat.le_of_ble_eq_true rfl) dX6_init_17 (fun H locs hP hD hS => ?_)
  have hP : va_P D vwCl [(h0, .inr (6, [.ref q1, .int (-1), .int 0, .int 0, .null, .null, .null, .null, .int 0, .int 0, .int 0, .int 0])), (q1, .inr (4, [.int 0, .ref q2, .ref q3, .ref q4])), (q2, .inl (cI, 3, .inl (fun _ => 0))), (q3, .inl (cI, 4, .inl (fun _ => 0))), (q4, .inl (cI, 192, .inl (fun _ => 0)))] H := hP
  have hD : va_D A [(h0, .inr (6, [.ref q1, .int (-1), .int 0, .int 0, .null, .null, .null, .null, .int 0, .int 0, .int 0, .int 0])), (q1, .inr (4, [.int 0, .ref q2, .ref q3, .ref q4])), (q2, .inl (cI, 3, .inl (fun _ => 0))), (q3, .inl (cI, 4, .inl (fun _ => 0))), (q4, .inl (cI, 192, .inl (fun _ => 0)))] := hD
  refine lv_aload_n hx hb dX6_init_20 rfl (lv_at hl 0 rfl) ?_
  refine lv_sipush (v := 501) hx hb dX6_init_21 (by decide) ?_
  refine gx_newI hx hb (hts (.arrayClass .int) (by decide +kernel)) hK hP hD hS hA 501 (by decide +kernel) (by decide +kernel) (by decide +kernel) (Nat.le_of_ble_eq_true rfl) (Nat.le_of_ble_eq_true rfl) dX6_init_24 (fun q5 H hP hD hS => ?_)
  have hP : va_P D vwCl [(h0, .inr (6, [.ref q1, .int (-1), .int 0, .int 0, .null, .null, .null, .null, .int 0, .int 0, .int 0, .int 0])), (q1, .inr (4, [.int 0, .ref q2, .ref q3, .ref q4])), (q2, .inl (cI, 3, .inl (fun _ => 0))), (q3, .inl (cI, 4, .inl (fun _ => 0))), (q4, .inl (cI, 192, .inl (fun _ => 0))), (q5, .inl (cI, 501, .inl (fun _ => 0)))] H := hP
  have hD : va_D A [(h0, .inr (6, [.ref q1, .int (-1), .int 0, .int 0, .null, .null, .null, .null, .int 0, .int 0, .int 0, .int 0])), (q1, .inr (4, [.int 0, .ref q2, .ref q3, .ref q4])), (q2, .inl (cI, 3, .inl (fun _ => 0))), (q3, .inl (cI, 4, .inl (fun _ => 0))), (q4, .inl (cI, 192, .inl (fun _ => 0))), (q5, .inl (cI, 501, .inl (fun _ => 0)))] := hD
  refine W.widen (k := 5) (n := 704) (Nat.le_of_ble_eq_true rfl) (Nat.le_of_ble_eq_true rfl) ?_
  refine va_putF (D := D) (ci := 6) (v := .ref q5) (ty := (.array .int)) (C := RX6) (T := TX6) (N := 12) hx hb hts (fun _ h => List.mem_cons_of_mem _ (List.mem_append_right _ h)) tyX6 tyX6_ok nmX6 hown hK hP hD hS 0 rfl rfl 4 (by decide) (hts (.fieldLink RX6 22 "LitmusHall$Reader" "kinds" "[I") (by decide +kernel)) (fun _ h9 => h9) rfl hin rfl (by decide +kernel) rfl rfl (Nat.le_of_ble_eq_true rfl) dX6_init_26 (fun H locs hP hD hS => ?_)
  have hP : va_P D vwCl [(h0, .inr (6, [.ref q1, .int (-1), .int 0, .int 0, .ref q5, .null, .null, .null, .int 0, .int 0, .int 0, .int 0])), (q1, .inr (4, [.int 0, .ref q2, .ref q3, .ref q4])), (q2, .inl (cI, 3, .inl (fun _ => 0))), (q3, .inl (cI, 4, .inl (fun _ => 0))), (q4, .inl (cI, 192, .inl (fun _ => 0))), (q5, .inl (cI, 501, .inl (fun _ => 0)))] H := hP
  have hD : va_D A [(h0, .inr (6, [.ref q1, .int (-1), .int 0, .int 0, .ref q5, .null, .null, .null, .int 0, .int 0, .int 0, .int 0])), (q1, .inr (4, [.int 0, .ref q2, .ref q3, .ref q4])), (q2, .inl (cI, 3, .inl (fun _ => 0))), (q3, .inl (cI, 4, .inl (fun _ => 0))), (q4, .inl (cI, 192, .inl (fun _ => 0))), (q5, .inl (cI, 501, .inl (fun _ => 0)))] := hD
  refine lv_aload_n hx hb dX6_init_29 rfl (lv_at hl 0 rfl) ?_
  refine lv_sipush (v := 501) hx hb dX6_init_30 (by decide) ?_
  refine gx_newI hx hb (hts (.arrayClass .int) (by decide +kernel)) hK hP hD hS hA 501 (by decide +kernel) (by decide +kernel) (by decide +kernel) (Nat.le_of_ble_eq_true rfl) (Nat.le_of_ble_eq_true rfl) dX6_init_33 (fun q6 H hP hD hS => ?_)
  have hP : va_P D vwCl [(h0, .inr (6, [.ref q1, .int (-1), .int 0, .int 0, .ref q5, .null, .null, .null, .int 0, .int 0, .int 0, .int 0])), (q1, .inr (4, [.int 0, .ref q2, .ref q3, .ref q4])), (q2, .inl (cI, 3, .inl (fun _ => 0))), (q3, .inl (cI, 4, .inl (fun _ => 0))), (q4, .inl (cI, 192, .inl (fun _ => 0))), (q5, .inl (cI, 501, .inl (fun _ => 0))), (q6, .inl (cI, 501, .inl (fun _ => 0)))] H := hP
  have hD : va_D A [(h0, .inr (6, [.ref q1, .int (-1), .int 0, .int 0, .ref q5, .null, .null, .null, .int 0, .int 0, .int 0, .int 0])), (q1, .inr (4, [.int 0, .ref q2, .ref q3, .ref q4])), (q2, .inl (cI, 3, .inl (fun _ => 0))), (q3, .inl (cI, 4, .inl (fun _ => 0))), (q4, .inl (cI, 192, .inl (fun _ => 0))), (q5, .inl (cI, 501, .inl (fun _ => 0))), (q6, .inl (cI, 501, .inl (fun _ => 0)))] := hD
  refine W.widen (k := 6) (n := 1205) (Nat.le_of_ble_eq_true rfl) (Nat.le_of_ble_eq_true rfl) ?_
  refine va_putF (D := D) (ci := 6) (v := .ref q6) (ty := (.array .int)) (C := RX6) (T := TX6) (N := 12) hx hb hts (fun _ h => List.mem_cons_of_mem _ (List.mem_append_right _ h)) tyX6 tyX6_ok nmX6 hown hK hP hD hS 0 rfl rfl 5 (by decide) (hts (.fieldLink RX6 26 "LitmusHall$Reader" "starts" "[I") (by decide +kernel)) (fun _ h9 => h9) rfl hin rfl (by decide +kernel) rfl rfl (Nat.le_of_ble_eq_true rfl) dX6_init_35 (fun H locs hP hD hS => ?_)
  have hP : va_P D vwCl [(h0, .inr (6, [.ref q1, .int (-1), .int 0, .int 0, .ref q5, .ref q6, .null, .null, .int 0, .int 0, .int 0, .int 0])), (q1, .inr (4, [.int 0, .ref q2, .ref q3, .ref q4])), (q2, .inl (cI, 3, .inl (fun _ => 0))), (q3, .inl (cI, 4, .inl (fun _ => 0))), (q4, .inl (cI, 192, .inl (fun _ => 0))), (q5, .inl (cI, 501, .inl (fun _ => 0))), (q6, .inl (cI, 501, .inl (fun _ => 0)))] H := hP
  have hD : va_D A [(h0, .inr (6, [.ref q1, .int (-1), .int 0, .int 0, .ref q5, .ref q6, .null, .null, .int 0, .int 0, .int 0, .int 0])), (q1, .inr (4, [.int 0, .ref q2, .ref q3, .ref q4])), (q2, .inl (cI, 3, .inl (fun _ => 0))), (q3, .inl (cI, 4, .inl (fun _ => 0))), (q4, .inl (cI, 192, .inl (fun _ => 0))), (q5, .inl (cI, 501, .inl (fun _ => 0))), (q6, .inl (cI, 501, .inl (fun _ => 0)))] := hD
  refine lv_aload_n hx hb dX6_init_38 rfl (lv_at hl 0 rfl) ?_
  refine lv_sipush (v := 501) hx hb dX6_init_39 (by decide) ?_
  refine gx_newI hx hb (hts (.arrayClass .int) (by decide +kernel)) hK hP hD hS hA 501 (by decide +kernel) (by decide +kernel) (by decide +kernel) (Nat.le_of_ble_eq_true rfl) (Nat.le_of_ble_eq_true rfl) dX6_init_42 (fun q7 H hP hD hS => ?_)
  have hP : va_P D vwCl [(h0, .inr (6, [.ref q1, .int (-1), .int 0, .int 0, .ref q5, .ref q6, .null, .null, .int 0, .int 0, .int 0, .int 0])), (q1, .inr (4, [.int 0, .ref q2, .ref q3, .ref q4])), (q2, .inl (cI, 3, .inl (fun _ => 0))), (q3, .inl (cI, 4, .inl (fun _ => 0))), (q4, .inl (cI, 192, .inl (fun _ => 0))), (q5, .inl (cI, 501, .inl (fun _ => 0))), (q6, .inl (cI, 501, .inl (fun _ => 0))), (q7, .inl (cI, 501, .inl (fun _ => 0)))] H := hP
  have hD : va_D A [(h0, .inr (6, [.ref q1, .int (-1), .int 0, .int 0, .ref q5, .ref q6, .null, .null, .int 0, .int 0, .int 0, .int 0])), (q1, .inr (4, [.int 0, .ref q2, .ref q3, .ref q4])), (q2, .inl (cI, 3, .inl (fun _ => 0))), (q3, .inl (cI, 4, .inl (fun _ => 0))), (q4, .inl (cI, 192, .inl (fun _ => 0))), (q5, .inl (cI, 501, .inl (fun _ => 0))), (q6, .inl (cI, 501, .inl (fun _ => 0))), (q7, .inl (cI, 501, .inl (fun _ => 0)))] := hD
  refine W.widen (k := 7) (n := 1706) (Nat.le_of_ble_eq_true rfl) (Nat.le_of_ble_eq_true rfl) ?_
  refine va_putF (D := D) (ci := 6) (v := .ref q7) (ty := (.array .int)) (C := RX6) (T := TX6) (N := 12) hx hb hts (fun _ h => List.mem_cons_of_mem _ (List.mem_append_right _ h)) tyX6 tyX6_ok nmX6 hown hK hP hD hS 0 rfl rfl 6 (by decide) (hts (.fieldLink RX6 29 "LitmusHall$Reader" "numbers" "[I") (by decide +kernel)) (fun _ h9 => h9) rfl hin rfl (by decide +kernel) rfl rfl (Nat.le_of_ble_eq_true rfl) dX6_init_44 (fun H locs hP hD hS => ?_)
  have hP : va_P D vwCl [(h0, .inr (6, [.ref q1, .int (-1), .int 0, .int 0, .ref q5, .ref q6, .ref q7, .null, .int 0, .int 0, .int 0, .int 0])), (q1, .inr (4, [.int 0, .ref q2, .ref q3, .ref q4])), (q2, .inl (cI, 3, .inl (fun _ => 0))), (q3, .inl (cI, 4, .inl (fun _ => 0))), (q4, .inl (cI, 192, .inl (fun _ => 0))), (q5, .inl (cI, 501, .inl (fun _ => 0))), (q6, .inl (cI, 501, .inl (fun _ => 0))), (q7, .inl (cI, 501, .inl (fun _ => 0)))] H := hP
  have hD : va_D A [(h0, .inr (6, [.ref q1, .int (-1), .int 0, .int 0, .ref q5, .ref q6, .ref q7, .null, .int 0, .int 0, .int 0, .int 0])), (q1, .inr (4, [.int 0, .ref q2, .ref q3, .ref q4])), (q2, .inl (cI, 3, .inl (fun _ => 0))), (q3, .inl (cI, 4, .inl (fun _ => 0))), (q4, .inl (cI, 192, .inl (fun _ => 0))), (q5, .inl (cI, 501, .inl (fun _ => 0))), (q6, .inl (cI, 501, .inl (fun _ => 0))), (q7, .inl (cI, 501, .inl (fun _ => 0)))] := hD
  refine lv_aload_n hx hb dX6_init_47 rfl (lv_at hl 0 rfl) ?_
  refine lv_bipush (v := 6) hx hb dX6_init_48 (by decide) ?_
  refine gx_newI hx hb (hts (.arrayClass .int) (by decide +kernel)) hK hP hD hS hA 6 (by decide +kernel) (by decide +kernel) (by decide +kernel) (Nat.le_of_ble_eq_true rfl) (Nat.le_of_ble_eq_true rfl) dX6_init_50 (fun q8 H hP hD hS => ?_)
  have hP : va_P D vwCl [(h0, .inr (6, [.ref q1, .int (-1), .int 0, .int 0, .ref q5, .ref q6, .ref q7, .null, .int 0, .int 0, .int 0, .int 0])), (q1, .inr (4, [.int 0, .ref q2, .ref q3, .ref q4])), (q2, .inl (cI, 3, .inl (fun _ => 0))), (q3, .inl (cI, 4, .inl (fun _ => 0))), (q4, .inl (cI, 192, .inl (fun _ => 0))), (q5, .inl (cI, 501, .inl (fun _ => 0))), (q6, .inl (cI, 501, .inl (fun _ => 0))), (q7, .inl (cI, 501, .inl (fun _ => 0))), (q8, .inl (cI, 6, .inl (fun _ => 0)))] H := hP
  have hD : va_D A [(h0, .inr (6, [.ref q1, .int (-1), .int 0, .int 0, .ref q5, .ref q6, .ref q7, .null, .int 0, .int 0, .int 0, .int 0])), (q1, .inr (4, [.int 0, .ref q2, .ref q3, .ref q4])), (q2, .inl (cI, 3, .inl (fun _ => 0))), (q3, .inl (cI, 4, .inl (fun _ => 0))), (q4, .inl (cI, 192, .inl (fun _ => 0))), (q5, .inl (cI, 501, .inl (fun _ => 0))), (q6, .inl (cI, 501, .inl (fun _ => 0))), (q7, .inl (cI, 501, .inl (fun _ => 0))), (q8, .inl (cI, 6, .inl (fun _ => 0)))] := hD
  refine W.widen (k := 8) (n := 1712) (Nat.le_of_ble_eq_true rfl) (Nat.le_of_ble_eq_true rfl) ?_
  refine va_putF (D := D) (ci := 6) (v := .ref q8) (ty := (.array .int)) (C := RX6) (T := TX6) (N := 12) hx hb hts (fun _ h => List.mem_cons_of_mem _ (List.mem_append_right _ h)) tyX6 tyX6_ok nmX6 hown hK hP hD hS 0 rfl rfl 7 (by decide) (hts (.fieldLink RX6 32 "LitmusHall$Reader" "skipTokens" "[I") (by decide +kernel)) (fun _ h9 => h9) rfl hin rfl (by decide +kernel) rfl rfl (Nat.le_of_ble_eq_true rfl) dX6_init_52 (fun H locs hP hD hS => ?_)
  have hP : va_P D vwCl [(h0, .inr (6, [.ref q1, .int (-1), .int 0, .int 0, .ref q5, .ref q6, .ref q7, .ref q8, .int 0, .int 0, .int 0, .int 0])), (q1, .inr (4, [.int 0, .ref q2, .ref q3, .ref q4])), (q2, .inl (cI, 3, .inl (fun _ => 0))), (q3, .inl (cI, 4, .inl (fun _ => 0))), (q4, .inl (cI, 192, .inl (fun _ => 0))), (q5, .inl (cI, 501, .inl (fun _ => 0))), (q6, .inl (cI, 501, .inl (fun _ => 0))), (q7, .inl (cI, 501, .inl (fun _ => 0))), (q8, .inl (cI, 6, .inl (fun _ => 0)))] H := hP
  have hD : va_D A [(h0, .inr (6, [.ref q1, .int (-1), .int 0, .int 0, .ref q5, .ref q6, .ref q7, .ref q8, .int 0, .int 0, .int 0, .int 0])), (q1, .inr (4, [.int 0, .ref q2, .ref q3, .ref q4])), (q2, .inl (cI, 3, .inl (fun _ => 0))), (q3, .inl (cI, 4, .inl (fun _ => 0))), (q4, .inl (cI, 192, .inl (fun _ => 0))), (q5, .inl (cI, 501, .inl (fun _ => 0))), (q6, .inl (cI, 501, .inl (fun _ => 0))), (q7, .inl (cI, 501, .inl (fun _ => 0))), (q8, .inl (cI, 6, .inl (fun _ => 0)))] := hD
  exact gx_vret hx hb hr hlk hK hP hD hS (Nat.le_of_ble_eq_true rfl) (Nat.le_of_ble_eq_true rfl) dX6_init_55 ⟨q1, q2, q3, q4, q5, q6, q7, q8, rfl⟩
def wsP_c_X0_init : List Cond := .code yX0_init cX0_init 1 none :: ([.methodLink RX0 3 objectInit, .instanceMethod objectInit, .code objectInit ⟨#[0xb1]⟩ 1 none, .classLink RX0 9 RX4, .instantiable RX4 4, .initialized RX4, .methodLink RX4 3 objectInit, .arrayClass .int, .fieldLink RX4 9 "LitmusHall$Program" "lengths" "[I", .fieldLink RX4 15 "LitmusHall$Program" "cells" "[I", .fieldLink RX4 18 "LitmusHall$Program" "parts" "[I", .code yX4_init cX4_init 1 none, .instanceMethod yX4_init, .fieldLink RX0 12 "LitmusHall$Cure" "fenced" "LLitmusHall$Program;", .fieldLink RX0 18 "LitmusHall$Cure" "answer" "I", .fieldLink RX0 22 "LitmusHall$Cure" "looked" "[I", .fieldLink RX0 26 "LitmusHall$Cure" "told" "[I"] ++ wsX40 ++ wsX00)
set_option maxRecDepth 20000 in
theorem gP_c_X0_init__c_X4_init_n11 : GoodIn wsP_c_X0_init wsP_c_X4_init := goodIn_r _ [12, 7, 2, 3, 8, 9, 10, 11, 18, 19, 20, 21] (by decide +kernel) (by decide +kernel)
set_option maxHeartbeats 4000000 in
set_option maxRecDepth 100000 in
theorem c_X0_init (l : Launch) (D : va_G) (cI cB cZ : ClassId) (h0 : Nat)  : gMv l yX0_init wsP_c_X0_init ({ frames := 2, cells := 6, slots := 207, locals := 32 }) D cI cB cZ [(RX0, 11, yX4_init, "LitmusHall")] [.ref h0] [(h0, .inr (0, [.null, .int 0, .int 0, .null, .int 0, .null]))] (fun w9 => ∃ q1 : Nat, ∃ q2 : Nat, ∃ q3 : Nat, ∃ q4 : Nat, ∃ q5 : Nat, ∃ q6 : Nat, w9 = [(h0, .inr (0, [.ref q1, .int 0, .int (-1), .ref q5, .int 0, .ref q6])), (q1, .inr (4, [.int 0, .ref q2, .ref q3, .ref q4])), (q2, .inl (cI, 3, .inl (fun _ => 0))), (q3, .inl (cI, 4, .inl (fun _ => 0))), (q4, .inl (cI, 192, .inl (fun _ => 0))), (q5, .inl (cI, 2, .inl (fun _ => 0))), (q6, .inl (cI, 2, .inl (fun _ => 0)))]) := by
  refine gMv.of (cc := cX0_init) (maxL := 1) (ret := none) (by decide) rfl (Nat.le_of_ble_eq_true rfl) (fun p e s m below meth c A ls hx hb hr hlk hml hts hown hin hA hP hK hD hS hN hl => ?_)
  have hown : s.vm.findClass RX0 = some m.cls := hown
  have hl : lv_has ls 1 [(0, .ref h0)] := hl
  refine lv_aload_n hx hb dX0_init_0 rfl (lv_at hl 0 rfl) ?_
  refine W.objInit hx hb hown (hts (.methodLink RX0 3 objectInit) (by decide +kernel)) (hts (.instanceMethod objectInit) (by decide +kernel)) (hts (.code objectInit ⟨#[0xb1]⟩ 1 none) (by decide +kernel)) rfl (by rw [hml]; exact hl.1) rfl dX0_init_1 (Nat.le_of_ble_eq_true rfl) (Nat.le_of_ble_eq_true rfl) ?_
  refine W.eq (g2 := F0 m 4 ls []) rfl ?_
  refine lv_aload_n hx hb dX0_init_4 rfl (lv_at hl 0 rfl) ?_
  refine va_new (ci := 4) (fs := [.int 0, .null, .null, .null]) (C := RX4) (T := TX4) (N := 4) hx hb hts (fun _ h => List.mem_cons_of_mem _ (List.mem_append_left _ (List.mem_append_right _ h))) tyX4 tyX4_ok hown (hts (.classLink RX0 9 RX4) (by decide +kernel)) (hts (.instantiable RX4 4) (by decide +kernel)) (hts (.initialized RX4) (by decide +kernel)) hK hP hD hS hA rfl (by decide +kernel) (Nat.le_of_ble_eq_true rfl) (Nat.le_of_ble_eq_true rfl) dX0_init_5 (fun q1 H hP hD hS => ?_)
  have hP : va_P D vwCl [(h0, .inr (0, [.null, .int 0, .int 0, .null, .int 0, .null])), (q1, .inr (4, [.int 0, .null, .null, .null]))] H := hP
  have hD : va_D A [(h0, .inr (0, [.null, .int 0, .int 0, .null, .int 0, .null])), (q1, .inr (4, [.int 0, .null, .null, .null]))] := hD
  refine W.widen (k := 1) (n := 4) (Nat.le_of_ble_eq_true rfl) (Nat.le_of_ble_eq_true rfl) ?_
  refine lv_dup hx hb dX0_init_8 rfl ?_
  refine gx_gov (wc := [(q1, .inr (4, [.int 0, .null, .null, .null]))]) (wr := [(h0, .inr (0, [.null, .int 0, .int 0, .null, .int 0, .null]))]) (va_runIN (As := []) (rest := [.ref q1, .ref h0]) ⟨hx, hb, hml, hown, hts⟩ (c_X4_init l D cI cB cZ q1 _) ⟨va_cnB 0 hts gP_c_X0_init__c_X4_init_n11 rfl rfl rfl (hN (RX0, 11, yX4_init, "LitmusHall") (by decide +kernel)) (hts (.initialized RX4) (by decide +kernel)) (by decide +kernel) ⟨Nat.le_of_ble_eq_true rfl, Nat.le_of_ble_eq_true rfl⟩, rfl, hts (.instanceMethod yX4_init) (by decide +kernel)⟩ (gx_preS hK gN.nil hP hD [1] rfl rfl) rfl rfl hl.1 rfl (lv_room (Nat.le_of_ble_eq_true rfl)) dX0_init_9 ⟨Nat.le_of_ble_eq_true rfl, Nat.le_of_ble_eq_true rfl⟩) hP hD hS hA [1] [0] rfl rfl rfl (by decide) (fun w1 H locs hp hP hD hS => ?_)
  obtain ⟨q2, q3, q4, rfl⟩ := hp
  have hP : va_P D vwCl [(h0, .inr (0, [.null, .int 0, .int 0, .null, .int 0, .null])), (q1, .inr (4, [.int 0, .ref q2, .ref q3, .ref q4])), (q2, .inl (cI, 3, .inl (fun _ => 0))), (q3, .inl (cI, 4, .inl (fun _ => 0))), (q4, .inl (cI, 192, .inl (fun _ => 0)))] H := hP
  have hD : va_D A [(h0, .inr (0, [.null, .int 0, .int 0, .null, .int 0, .null])), (q1, .inr (4, [.int 0, .ref q2, .ref q3, .ref q4])), (q2, .inl (cI, 3, .inl (fun _ => 0))), (q3, .inl (cI, 4, .inl (fun _ => 0))), (q4, .inl (cI, 192, .inl (fun _ => 0)))] := hD
  refine W.widen (k := 4) (n := 203) (Nat.le_of_ble_eq_true rfl) (Nat.le_of_ble_eq_true rfl) ?_
  refine va_putF (D := D) (ci := 0) (v := .ref q1) (ty := (.object "LitmusHall$Program")) (C := RX0) (T := TX0) (N := 6) hx hb hts (fun _ h => List.mem_cons_of_mem _ (List.mem_append_right _ h)) tyX0 tyX0_ok nmX0 hown hK hP hD hS 0 rfl rfl 0 (by decide) (hts (.fieldLink RX0 12 "LitmusHall$Cure" "fenced" "LLitmusHall$Program;") (by decide +kernel)) (fun _ h9 => h9) rfl hin rfl (by decide +kernel) rfl rfl (Nat.le_of_ble_eq_true rfl) dX0_init_12 (fun H locs hP hD hS => ?_)
  have hP : va_P D vwCl [(h0, .inr (0, [.ref q1, .int 0, .int 0, .null, .int 0, .null])), (q1, .inr (4, [.int 0, .ref q2, .ref q3, .ref q4])), (q2, .inl (cI, 3, .inl (fun _ => 0))), (q3, .inl (cI, 4, .inl (fun _ => 0))), (q4, .inl (cI, 192, .inl (fun _ => 0)))] H := hP
  have hD : va_D A [(h0, .inr (0, [.ref q1, .int 0, .int 0, .null, .int 0, .null])), (q1, .inr (4, [.int 0, .ref q2, .ref q3, .ref q4])), (q2, .inl (cI, 3, .inl (fun _ => 0))), (q3, .inl (cI, 4, .inl (fun _ => 0))), (q4, .inl (cI, 192, .inl (fun _ => 0)))] := hD
  refine lv_aload_n hx hb dX0_init_15 rfl (lv_at hl 0 rfl) ?_
  refine lv_iconst (v := (-1)) hx hb dX0_init_16 (by decide) ?_
  refine va_put (D := D) (ci := 0) (v := .int (-1)) (ty := .int) (C := RX0) (T := TX0) (N := 6) hx hb hts (fun _ h => List.mem_cons_of_mem _ (List.mem_append_right _ h)) tyX0 tyX0_ok nmX0 hown hK hP hD hS 0 rfl rfl 2 (by decide) (hts (.fieldLink RX0 18 "LitmusHall$Cure" "answer" "I") (by decide +kernel)) (fun _ h9 => h9) rfl (by decide +kernel) rfl rfl (Nat.le_of_ble_eq_true rfl) dX0_init_17 (fun H locs hP hD hS => ?_)
  have hP : va_P D vwCl [(h0, .inr (0, [.ref q1, .int 0, .int (-1), .null, .int 0, .null])), (q1, .inr (4, [.int 0, .ref q2, .ref q3, .ref q4])), (q2, .inl (cI, 3, .inl (fun _ => 0))), (q3, .inl (cI, 4, .inl (fun _ => 0))), (q4, .inl (cI, 192, .inl (fun _ => 0)))] H := hP
  have hD : va_D A [(h0, .inr (0, [.ref q1, .int 0, .int (-1), .null, .int 0, .null])), (q1, .inr (4, [.int 0, .ref q2, .ref q3, .ref q4])), (q2, .inl (cI, 3, .inl (fun _ => 0))), (q3, .inl (cI, 4, .inl (fun _ => 0))), (q4, .inl (cI, 192, .inl (fun _ => 0)))] := hD
  refine lv_aload_n hx hb dX0_init_20 rfl (lv_at hl 0 rfl) ?_
  refine lv_iconst (v := 2) hx hb dX0_init_21 (by decide) ?_
  refine gx_newI hx hb (hts (.arrayClass .int) (by decide +kernel)) hK hP hD hS hA 2 (by decide +kernel) (by decide +kernel) (by decide +kernel) (Nat.le_of_ble_eq_true rfl) (Nat.le_of_ble_eq_true rfl) dX0_init_22 (fun q5 H hP hD hS => ?_)
  have hP : va_P D vwCl [(h0, .inr (0, [.ref q1, .int 0, .int (-1), .null, .int 0, .null])), (q1, .inr (4, [.int 0, .ref q2, .ref q3, .ref q4])), (q2, .inl (cI, 3, .inl (fun _ => 0))), (q3, .inl (cI, 4, .inl (fun _ => 0))), (q4, .inl (cI, 192, .inl (fun _ => 0))), (q5, .inl (cI, 2, .inl (fun _ => 0)))] H := hP
  have hD : va_D A [(h0, .inr (0, [.ref q1, .int 0, .int (-1), .null, .int 0, .null])), (q1, .inr (4, [.int 0, .ref q2, .ref q3, .ref q4])), (q2, .inl (cI, 3, .inl (fun _ => 0))), (q3, .inl (cI, 4, .inl (fun _ => 0))), (q4, .inl (cI, 192, .inl (fun _ => 0))), (q5, .inl (cI, 2, .inl (fun _ => 0)))] := hD
  refine W.widen (k := 5) (n := 205) (Nat.le_of_ble_eq_true rfl) (Nat.le_of_ble_eq_true rfl) ?_
  refine va_putF (D := D) (ci := 0) (v := .ref q5) (ty := (.array .int)) (C := RX0) (T := TX0) (N := 6) hx hb hts (fun _ h => List.mem_cons_of_mem _ (List.mem_append_right _ h)) tyX0 tyX0_ok nmX0 hown hK hP hD hS 0 rfl rfl 3 (by decide) (hts (.fieldLink RX0 22 "LitmusHall$Cure" "looked" "[I") (by decide +kernel)) (fun _ h9 => h9) rfl hin rfl (by decide +kernel) rfl rfl (Nat.le_of_ble_eq_true rfl) dX0_init_24 (fun H locs hP hD hS => ?_)
  have hP : va_P D vwCl [(h0, .inr (0, [.ref q1, .int 0, .int (-1), .ref q5, .int 0, .null])), (q1, .inr (4, [.int 0, .ref q2, .ref q3, .ref q4])), (q2, .inl (cI, 3, .inl (fun _ => 0))), (q3, .inl (cI, 4, .inl (fun _ => 0))), (q4, .inl (cI, 192, .inl (fun _ => 0))), (q5, .inl (cI, 2, .inl (fun _ => 0)))] H := hP
  have hD : va_D A [(h0, .inr (0, [.ref q1, .int 0, .int (-1), .ref q5, .int 0, .null])), (q1, .inr (4, [.int 0, .ref q2, .ref q3, .ref q4])), (q2, .inl (cI, 3, .inl (fun _ => 0))), (q3, .inl (cI, 4, .inl (fun _ => 0))), (q4, .inl (cI, 192, .inl (fun _ => 0))), (q5, .inl (cI, 2, .inl (fun _ => 0)))] := hD
  refine lv_aload_n hx hb dX0_init_27 rfl (lv_at hl 0 rfl) ?_
  refine lv_iconst (v := 2) hx hb dX0_init_28 (by decide) ?_
  refine gx_newI hx hb (hts (.arrayClass .int) (by decide +kernel)) hK hP hD hS hA 2 (by decide +kernel) (by decide +kernel) (by decide +kernel) (Nat.le_of_ble_eq_true rfl) (Nat.le_of_ble_eq_true rfl) dX0_init_29 (fun q6 H hP hD hS => ?_)
  have hP : va_P D vwCl [(h0, .inr (0, [.ref q1, .int 0, .int (-1), .ref q5, .int 0, .null])), (q1, .inr (4, [.int 0, .ref q2, .ref q3, .ref q4])), (q2, .inl (cI, 3, .inl (fun _ => 0))), (q3, .inl (cI, 4, .inl (fun _ => 0))), (q4, .inl (cI, 192, .inl (fun _ => 0))), (q5, .inl (cI, 2, .inl (fun _ => 0))), (q6, .inl (cI, 2, .inl (fun _ => 0)))] H := hP
  have hD : va_D A [(h0, .inr (0, [.ref q1, .int 0, .int (-1), .ref q5, .int 0, .null])), (q1, .inr (4, [.int 0, .ref q2, .ref q3, .ref q4])), (q2, .inl (cI, 3, .inl (fun _ => 0))), (q3, .inl (cI, 4, .inl (fun _ => 0))), (q4, .inl (cI, 192, .inl (fun _ => 0))), (q5, .inl (cI, 2, .inl (fun _ => 0))), (q6, .inl (cI, 2, .inl (fun _ => 0)))] := hD
  refine W.widen (k := 6) (n := 207) (Nat.le_of_ble_eq_true rfl) (Nat.le_of_ble_eq_true rfl) ?_
  refine va_putF (D := D) (ci := 0) (v := .ref q6) (ty := (.array .int)) (C := RX0) (T := TX0) (N := 6) hx hb hts (fun _ h => List.mem_cons_of_mem _ (List.mem_append_right _ h)) tyX0 tyX0_ok nmX0 hown hK hP hD hS 0 rfl rfl 5 (by decide) (hts (.fieldLink RX0 26 "LitmusHall$Cure" "told" "[I") (by decide +kernel)) (fun _ h9 => h9) rfl hin rfl (by decide +kernel) rfl rfl (Nat.le_of_ble_eq_true rfl) dX0_init_31 (fun H locs hP hD hS => ?_)
  have hP : va_P D vwCl [(h0, .inr (0, [.ref q1, .int 0, .int (-1), .ref q5, .int 0, .ref q6])), (q1, .inr (4, [.int 0, .ref q2, .ref q3, .ref q4])), (q2, .inl (cI, 3, .inl (fun _ => 0))), (q3, .inl (cI, 4, .inl (fun _ => 0))), (q4, .inl (cI, 192, .inl (fun _ => 0))), (q5, .inl (cI, 2, .inl (fun _ => 0))), (q6, .inl (cI, 2, .inl (fun _ => 0)))] H := hP
  have hD : va_D A [(h0, .inr (0, [.ref q1, .int 0, .int (-1), .ref q5, .int 0, .ref q6])), (q1, .inr (4, [.int 0, .ref q2, .ref q3, .ref q4])), (q2, .inl (cI, 3, .inl (fun _ => 0))), (q3, .inl (cI, 4, .inl (fun _ => 0))), (q4, .inl (cI, 192, .inl (fun _ => 0))), (q5, .inl (cI, 2, .inl (fun _ => 0))), (q6, .inl (cI, 2, .inl (fun _ => 0)))] := hD
  exact gx_vret hx hb hr hlk hK hP hD hS (Nat.le_of_ble_eq_true rfl) (Nat.le_of_ble_eq_true rfl) dX0_init_34 ⟨q1, q2, q3, q4, q5, q6, rfl⟩
