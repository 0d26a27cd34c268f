theorem dX7_letGo_0 : decode cX7_letGo 0 = .ok (.bipush 16, 2) := by decide +kernel
theorem dX7_letGo_100 : decode cX7_letGo 100 = .ok (.isub, 1) := by decide +kernel
theorem dX7_letGo_101 : decode cX7_letGo 101 = .ok (.iastore, 1) := by decide +kernel
theorem dX7_letGo_102 : decode cX7_letGo 102 = .ok (.return_, 1) := by decide +kernel
theorem dX7_letGo_12 : decode cX7_letGo 12 = .ok (.bipush 13, 2) := by decide +kernel
theorem dX7_letGo_14 : decode cX7_letGo 14 = .ok (.iload_n 1, 1) := by decide +kernel
theorem dX7_letGo_15 : decode cX7_letGo 15 = .ok (.iadd, 1) := by decide +kernel
theorem dX7_letGo_16 : decode cX7_letGo 16 = .ok (.iaload, 1) := by decide +kernel
theorem dX7_letGo_17 : decode cX7_letGo 17 = .ok (.istore_n 3, 1) := by decide +kernel
theorem dX7_letGo_18 : decode cX7_letGo 18 = .ok (.aload_n 0, 1) := by decide +kernel
theorem dX7_letGo_19 : decode cX7_letGo 19 = .ok (.getfield 11, 3) := by decide +kernel
theorem dX7_letGo_2 : decode cX7_letGo 2 = .ok (.iload_n 1, 1) := by decide +kernel
theorem dX7_letGo_22 : decode cX7_letGo 22 = .ok (.bipush 9, 2) := by decide +kernel
theorem dX7_letGo_24 : decode cX7_letGo 24 = .ok (.aload_n 0, 1) := by decide +kernel
theorem dX7_letGo_25 : decode cX7_letGo 25 = .ok (.iload_n 1, 1) := by decide +kernel
theorem dX7_letGo_26 : decode cX7_letGo 26 = .ok (.iconst 0, 1) := by decide +kernel
theorem dX7_letGo_27 : decode cX7_letGo 27 = .ok (.invokevirtual 86, 3) := by decide +kernel
theorem dX7_letGo_3 : decode cX7_letGo 3 = .ok (.bipush 6, 2) := by decide +kernel
theorem dX7_letGo_30 : decode cX7_letGo 30 = .ok (.iadd, 1) := by decide +kernel
theorem dX7_letGo_31 : decode cX7_letGo 31 = .ok (.aload_n 0, 1) := by decide +kernel
theorem dX7_letGo_32 : decode cX7_letGo 32 = .ok (.getfield 11, 3) := by decide +kernel
theorem dX7_letGo_35 : decode cX7_letGo 35 = .ok (.iload_n 2, 1) := by decide +kernel
theorem dX7_letGo_36 : decode cX7_letGo 36 = .ok (.iaload, 1) := by decide +kernel
theorem dX7_letGo_37 : decode cX7_letGo 37 = .ok (.iastore, 1) := by decide +kernel
theorem dX7_letGo_38 : decode cX7_letGo 38 = .ok (.aload_n 0, 1) := by decide +kernel
theorem dX7_letGo_39 : decode cX7_letGo 39 = .ok (.getfield 11, 3) := by decide +kernel
theorem dX7_letGo_42 : decode cX7_letGo 42 = .ok (.iload_n 2, 1) := by decide +kernel
theorem dX7_letGo_43 : decode cX7_letGo 43 = .ok (.iconst 1, 1) := by decide +kernel
theorem dX7_letGo_44 : decode cX7_letGo 44 = .ok (.iadd, 1) := by decide +kernel
theorem dX7_letGo_45 : decode cX7_letGo 45 = .ok (.aload_n 0, 1) := by decide +kernel
theorem dX7_letGo_46 : decode cX7_letGo 46 = .ok (.getfield 11, 3) := by decide +kernel
theorem dX7_letGo_49 : decode cX7_letGo 49 = .ok (.iload_n 2, 1) := by decide +kernel
theorem dX7_letGo_5 : decode cX7_letGo 5 = .ok (.imul, 1) := by decide +kernel
theorem dX7_letGo_50 : decode cX7_letGo 50 = .ok (.iconst 5, 1) := by decide +kernel
theorem dX7_letGo_51 : decode cX7_letGo 51 = .ok (.invokestatic 30, 3) := by decide +kernel
theorem dX7_letGo_54 : decode cX7_letGo 54 = .ok (.aload_n 0, 1) := by decide +kernel
theorem dX7_letGo_55 : decode cX7_letGo 55 = .ok (.getfield 11, 3) := by decide +kernel
theorem dX7_letGo_58 : decode cX7_letGo 58 = .ok (.iload_n 2, 1) := by decide +kernel
theorem dX7_letGo_59 : decode cX7_letGo 59 = .ok (.bipush 6, 2) := by decide +kernel
theorem dX7_letGo_6 : decode cX7_letGo 6 = .ok (.iadd, 1) := by decide +kernel
theorem dX7_letGo_61 : decode cX7_letGo 61 = .ok (.iadd, 1) := by decide +kernel
theorem dX7_letGo_62 : decode cX7_letGo 62 = .ok (.iconst 1, 1) := by decide +kernel
theorem dX7_letGo_63 : decode cX7_letGo 63 = .ok (.isub, 1) := by decide +kernel
theorem dX7_letGo_64 : decode cX7_letGo 64 = .ok (.iconst 0, 1) := by decide +kernel
theorem dX7_letGo_65 : decode cX7_letGo 65 = .ok (.iastore, 1) := by decide +kernel
theorem dX7_letGo_66 : decode cX7_letGo 66 = .ok (.iload_n 3, 1) := by decide +kernel
theorem dX7_letGo_67 : decode cX7_letGo 67 = .ok (.bipush 7, 2) := by decide +kernel
theorem dX7_letGo_69 : decode cX7_letGo 69 = .ok (.ishr, 1) := by decide +kernel
theorem dX7_letGo_7 : decode cX7_letGo 7 = .ok (.istore_n 2, 1) := by decide +kernel
theorem dX7_letGo_70 : decode cX7_letGo 70 = .ok (.sipush 4095, 3) := by decide +kernel
theorem dX7_letGo_73 : decode cX7_letGo 73 = .ok (.iand, 1) := by decide +kernel
theorem dX7_letGo_74 : decode cX7_letGo 74 = .ok (.iconst 2, 1) := by decide +kernel
theorem dX7_letGo_75 : decode cX7_letGo 75 = .ok (.ishr, 1) := by decide +kernel
theorem dX7_letGo_76 : decode cX7_letGo 76 = .ok (.istore 4, 2) := by decide +kernel
theorem dX7_letGo_78 : decode cX7_letGo 78 = .ok (.iload_n 3, 1) := by decide +kernel
theorem dX7_letGo_79 : decode cX7_letGo 79 = .ok (.ldc 89, 2) := by decide +kernel
theorem dX7_letGo_8 : decode cX7_letGo 8 = .ok (.aload_n 0, 1) := by decide +kernel
theorem dX7_letGo_81 : decode cX7_letGo 81 = .ok (.iand, 1) := by decide +kernel
theorem dX7_letGo_82 : decode cX7_letGo 82 = .ok (.iload 4, 2) := by decide +kernel
theorem dX7_letGo_84 : decode cX7_letGo 84 = .ok (.bipush 7, 2) := by decide +kernel
theorem dX7_letGo_86 : decode cX7_letGo 86 = .ok (.ishl, 1) := by decide +kernel
theorem dX7_letGo_87 : decode cX7_letGo 87 = .ok (.ior, 1) := by decide +kernel
theorem dX7_letGo_88 : decode cX7_letGo 88 = .ok (.istore_n 3, 1) := by decide +kernel
theorem dX7_letGo_89 : decode cX7_letGo 89 = .ok (.aload_n 0, 1) := by decide +kernel
theorem dX7_letGo_9 : decode cX7_letGo 9 = .ok (.getfield 11, 3) := by decide +kernel
theorem dX7_letGo_90 : decode cX7_letGo 90 = .ok (.getfield 11, 3) := by decide +kernel
theorem dX7_letGo_93 : decode cX7_letGo 93 = .ok (.bipush 13, 2) := by decide +kernel
theorem dX7_letGo_95 : decode cX7_letGo 95 = .ok (.iload_n 1, 1) := by decide +kernel
theorem dX7_letGo_96 : decode cX7_letGo 96 = .ok (.iadd, 1) := by decide +kernel
theorem dX7_letGo_97 : decode cX7_letGo 97 = .ok (.iload_n 3, 1) := by decide +kernel
theorem dX7_letGo_98 : decode cX7_letGo 98 = .ok (.bipush 16, 2) := by decide +kernel
theorem gLo_go {w y : Int32} (h : 0 < gSz w) (hlo : gLo w < 112) : gLo (((w &&& (-524161)) ||| (y <<< ((7 : Int32) &&& 31))) - 16) < 112 := by
  have e : gLo ((w &&& (-524161)) ||| (y <<< ((7 : Int32) &&& 31))) = gLo w := by rw [gLo_hi _ _ (gLo_shl _ _ 7 (by decide +kernel) (by omega)), gLo_mask _ _ (by decide +kernel)]
  rw [gLo_sub16 _ (by rw [e]; have := gSz_lo w; omega), e]
  omega
theorem gy_in36 {x : Int32} (h1 : ¬ x < 3) (h2 : ¬ 6 ≤ x) : ∃ k, k < 3 ∧ x = nI (3 + k) := by
  have h0 : ¬ x < 0 := fun h => h1 (Int32.lt_trans h (by decide))
  obtain ⟨j, hj, rfl⟩ := nI_of h0
  have a1 : ¬ j < 3 := fun q => h1 ((nI_ltI (b := 3) hj (by decide)).mpr q)
  have a2 : ¬ 6 ≤ j := fun q => h2 ((nI_leI (a := 6) (by decide) hj).mpr q)
  exact ⟨j - 3, by omega, by congr 1; omega⟩
theorem gy_inc {x : Int32} {c : Nat} (hc : c < 2 ^ 31) (h1 : ¬ x < 0) (h2 : x < nI c) : ∃ k, k < c ∧ x = nI k := by
  obtain ⟨j, hj, rfl⟩ := nI_of h1
  exact ⟨j, (nI_ltI hj hc).mp h2, rfl⟩
def gCan (f : Nat → Int32) (L : Nat → Nat) (c : Nat) (x : Int32) : Prop := (∃ k, k < 3 ∧ x = nI (3 + k) ∧ 0 < gSz (f (13 + k))) ∨ (∃ k, k < c ∧ x = nI k ∧ gNx (f (13 + k)) < L k)
def wsP_c_letGo : List Cond := .code yX7_letGo cX7_letGo 5 none :: ([.fieldLink RX7 11 "LitmusHall$State" "words" "[I", .methodLink RX7 86 yX7_rowCell, .instanceMethod yX7_rowCell, .selects RX7 yX7_rowCell yX7_rowCell, .initialized RX7, .code yX7_rowCell cX7_rowCell 3 (some .int), .methodLink RX7 30 arraycopyName, .native arraycopyName, .static arraycopyName, .initialized "java/lang/System", .constant RX7 89 (-524161)] ++ wsX70)
set_option maxRecDepth 20000 in
theorem gP_c_letGo__c_rowCell : GoodIn wsP_c_letGo (wsV RX7 86 RX7 yX7_rowCell wsP_c_rowCell) := goodIn_r _ [2, 3, 4, 5, 6, 1, 12] (by decide +kernel) (by decide +kernel)
set_option maxHeartbeats 4000000 in
set_option maxRecDepth 100000 in
theorem c_letGo (l : Launch) (D : va_G) (cI cB cZ : ClassId) (h0 : Nat) (a1 : Nat) (f : Nat → Int32) (k : Nat) (hk : k < 3) (hW : gOkW f) (hz : 0 < gSz (f (13 + k))) : gMv l yX7_letGo wsP_c_letGo ({ frames := 1, cells := 0, slots := 0, locals := 40 }) D cI cB cZ [] [.ref h0, .int (nI k)] [(h0, .inr (7, [.ref a1])), (a1, .inl (cI, 34, .inl f))] (fun w9 => ∃ g : Nat → Int32, (gOkW g) ∧ w9 = [(h0, .inr (7, [.ref a1])), (a1, .inl (cI, 34, .inl g))]) := by
  refine gMv.of (cc := cX7_letGo) (maxL := 5) (ret := none) (by decide) rfl (Nat.le_of_ble_eq_true rfl) (fun p e s m below meth c A ls hx hb hr hlk hml hts hown hin hA hP hK hD hS hN hl => ?_)
  have hown : s.vm.findClass RX7 = some m.cls := hown
  have hl : lv_has ls 5 [(0, .ref h0), (1, .int (nI k))] := hl
  refine lv_bipush (v := 16) hx hb dX7_letGo_0 (by decide) ?_
  refine lv_iload_n hx hb dX7_letGo_2 rfl (lv_at hl 1 rfl) ?_
  refine lv_bipush (v := 6) hx hb dX7_letGo_3 (by decide) ?_
  refine lv_imul hx hb dX7_letGo_5 ?_
  refine gx_top (y := nI (k * 6)) (pk_mul k 6) ?_
  refine lv_iadd hx hb dX7_letGo_6 ?_
  refine gx_top (y := nI (16 + (k * 6))) (nI_add 16 (k * 6)) ?_
  refine lv_istore_n (lv' := [(2, .int (nI (16 + (k * 6)))), (0, .ref h0), (1, .int (nI k))]) hx hb dX7_letGo_7 rfl hl (by decide) rfl (fun ls hl => ?_)
  refine lv_aload_n hx hb dX7_letGo_8 rfl (lv_at hl 1 rfl) ?_
  refine va_get (D := D) (ci := 7) (v := .ref a1) (C := RX7) (T := TX7) (N := 1) hx hb hts (fun _ h => List.mem_cons_of_mem _ (List.mem_append_right _ h)) hown hK hP 0 rfl rfl 0 (by decide) (hts (.fieldLink RX7 11 "LitmusHall$State" "words" "[I") (by decide +kernel)) (fun _ h9 => h9) rfl dX7_letGo_9 ?_
  refine lv_bipush (v := 13) hx hb dX7_letGo_12 (by decide) ?_
  refine lv_iload_n hx hb dX7_letGo_14 rfl (lv_at hl 2 rfl) ?_
  refine lv_iadd hx hb dX7_letGo_15 ?_
  refine gx_top (y := nI (13 + k)) (nI_add 13 k) ?_
  refine gy_ild (i := (13 + k)) hx hb hK hP 1 rfl (by omega) (by omega) dX7_letGo_16 ?_
  refine lv_istore_n (lv' := [(3, .int (f (13 + k))), (2, .int (nI (16 + (k * 6)))), (0, .ref h0), (1, .int (nI k))]) hx hb dX7_letGo_17 rfl hl (by decide) rfl (fun ls hl => ?_)
  refine lv_aload_n hx hb dX7_letGo_18 rfl (lv_at hl 2 rfl) ?_
  refine va_get (D := D) (ci := 7) (v := .ref a1) (C := RX7) (T := TX7) (N := 1) hx hb hts (fun _ h => List.mem_cons_of_mem _ (List.mem_append_right _ h)) hown hK hP 0 rfl rfl 0 (by decide) (hts (.fieldLink RX7 11 "LitmusHall$State" "words" "[I") (by decide +kernel)) (fun _ h9 => h9) rfl dX7_letGo_19 ?_
  refine lv_bipush (v := 9) hx hb dX7_letGo_22 (by decide) ?_
  refine lv_aload_n hx hb dX7_letGo_24 rfl (lv_at hl 2 rfl) ?_
  refine lv_iload_n hx hb dX7_letGo_25 rfl (lv_at hl 3 rfl) ?_
  refine lv_iconst (v := 0) hx hb dX7_letGo_26 (by decide) ?_
  refine gx_goi (wc := [(h0, .inr (7, [.ref a1])), (a1, .inl (cI, 34, .inl f))]) (wr := []) (va_runV (As := [.int (nI k), .int 0]) (rest := [.int 9, .ref a1]) ⟨hx, hb, hml, hown, hts⟩ (c_rowCell l D cI cB cZ h0 a1 f k 0 (by omega) _) (cwV 2 hts gP_c_letGo__c_rowCell rfl rfl rfl (by decide +kernel) ⟨Nat.le_of_ble_eq_true rfl, Nat.le_of_ble_eq_true rfl⟩) (gx_preV (ci := 7) (q0 := 0) hK gN.nil hP hD [0, 1] rfl rfl rfl rfl) rfl rfl hl.1 rfl (lv_room (Nat.le_of_ble_eq_true rfl)) dX7_letGo_27 ⟨Nat.le_of_ble_eq_true rfl, Nat.le_of_ble_eq_true rfl⟩) hP hD hS hA [0, 1] [] rfl rfl rfl (by decide) (fun r1 w1 H locs hp hP hD hS => ?_)
  obtain ⟨e_1, hq_2, h9, rfl⟩ := hp
  have h9 := h9.symm
  subst h9
  have hq_2 : e_1 < 4 := hq_2
  have hP : va_P D vwCl [(h0, .inr (7, [.ref a1])), (a1, .inl (cI, 34, .inl f))] H := hP
  have hD : va_D A [(h0, .inr (7, [.ref a1])), (a1, .inl (cI, 34, .inl f))] := hD
  refine lv_iadd hx hb dX7_letGo_30 ?_
  refine gx_top (y := nI (9 + e_1)) (nI_add 9 e_1) ?_
  refine lv_aload_n hx hb dX7_letGo_31 rfl (lv_at hl 2 rfl) ?_
  refine va_get (D := D) (ci := 7) (v := .ref a1) (C := RX7) (T := TX7) (N := 1) hx hb hts (fun _ h => List.mem_cons_of_mem _ (List.mem_append_right _ h)) hown hK hP 0 rfl rfl 0 (by decide) (hts (.fieldLink RX7 11 "LitmusHall$State" "words" "[I") (by decide +kernel)) (fun _ h9 => h9) rfl dX7_letGo_32 ?_
  refine lv_iload_n hx hb dX7_letGo_35 rfl (lv_at hl 1 rfl) ?_
  refine gy_ild (i := (16 + (k * 6))) hx hb hK hP 1 rfl (by omega) (by omega) dX7_letGo_36 ?_
  refine gy_ist (i := (9 + e_1)) hx hb hK hP hD hS 1 rfl (by omega) (by omega) dX7_letGo_37 (fun H locs hP hD hS => ?_)
  have hP : va_P D vwCl [(h0, .inr (7, [.ref a1])), (a1, .inl (cI, 34, .inl (upd f (9 + e_1) (f (16 + (k * 6))))))] H := hP
  have hD : va_D A [(h0, .inr (7, [.ref a1])), (a1, .inl (cI, 34, .inl (upd f (9 + e_1) (f (16 + (k * 6))))))] := hD
  refine lv_aload_n hx hb dX7_letGo_38 rfl (lv_at hl 2 rfl) ?_
  refine va_get (D := D) (ci := 7) (v := .ref a1) (C := RX7) (T := TX7) (N := 1) hx hb hts (fun _ h => List.mem_cons_of_mem _ (List.mem_append_right _ h)) hown hK hP 0 rfl rfl 0 (by decide) (hts (.fieldLink RX7 11 "LitmusHall$State" "words" "[I") (by decide +kernel)) (fun _ h9 => h9) rfl dX7_letGo_39 ?_
  refine lv_iload_n hx hb dX7_letGo_42 rfl (lv_at hl 1 rfl) ?_
  refine lv_iconst (v := 1) hx hb dX7_letGo_43 (by decide) ?_
  refine lv_iadd hx hb dX7_letGo_44 ?_
  refine gx_top (y := nI ((16 + (k * 6)) + 1)) (nI_add (16 + (k * 6)) 1) ?_
  refine lv_aload_n hx hb dX7_letGo_45 rfl (lv_at hl 2 rfl) ?_
  refine va_get (D := D) (ci := 7) (v := .ref a1) (C := RX7) (T := TX7) (N := 1) hx hb hts (fun _ h => List.mem_cons_of_mem _ (List.mem_append_right _ h)) hown hK hP 0 rfl rfl 0 (by decide) (hts (.fieldLink RX7 11 "LitmusHall$State" "words" "[I") (by decide +kernel)) (fun _ h9 => h9) rfl dX7_letGo_46 ?_
  refine lv_iload_n hx hb dX7_letGo_49 rfl (lv_at hl 1 rfl) ?_
  refine lv_iconst (v := 5) hx hb dX7_letGo_50 (by decide) ?_
  refine gy_copyi (sp := ((16 + (k * 6)) + 1)) (dp := (16 + (k * 6))) (n := 5) hx hb (hml.trans hl.1.symm) hown (hts (.methodLink RX7 30 arraycopyName) (by decide +kernel)) (hts (.native arraycopyName) (by decide +kernel)) (hts (.static arraycopyName) (by decide +kernel)) (hts (.initialized "java/lang/System") (by decide +kernel)) hK hP hD hS 1 1 rfl rfl (by omega) (by omega) (by omega) (by omega) (by omega) (Nat.le_of_ble_eq_true rfl) (Nat.le_of_ble_eq_true rfl) dX7_letGo_51 (fun H locs hP hD hS => ?_)
  have hP : va_P D vwCl [(h0, .inr (7, [.ref a1])), (a1, .inl (cI, 34, .inl (va_cpy (upd f (9 + e_1) (f (16 + (k * 6)))) (upd f (9 + e_1) (f (16 + (k * 6)))) ((16 + (k * 6)) + 1) (16 + (k * 6)) 5)))] H := hP
  have hD : va_D A [(h0, .inr (7, [.ref a1])), (a1, .inl (cI, 34, .inl (va_cpy (upd f (9 + e_1) (f (16 + (k * 6)))) (upd f (9 + e_1) (f (16 + (k * 6)))) ((16 + (k * 6)) + 1) (16 + (k * 6)) 5)))] := hD
  refine lv_aload_n hx hb dX7_letGo_54 rfl (lv_at hl 2 rfl) ?_
  refine va_get (D := D) (ci := 7) (v := .ref a1) (C := RX7) (T := TX7) (N := 1) hx hb hts (fun _ h => List.mem_cons_of_mem _ (List.mem_append_right _ h)) hown hK hP 0 rfl rfl 0 (by decide) (hts (.fieldLink RX7 11 "LitmusHall$State" "words" "[I") (by decide +kernel)) (fun _ h9 => h9) rfl dX7_letGo_55 ?_
  refine lv_iload_n hx hb dX7_letGo_58 rfl (lv_at hl 1 rfl) ?_
  refine lv_bipush (v := 6) hx hb dX7_letGo_59 (by decide) ?_
  refine lv_iadd hx hb dX7_letGo_61 ?_
  refine gx_top (y := nI ((16 + (k * 6)) + 6)) (nI_add (16 + (k * 6)) 6) ?_
  refine lv_iconst (v := 1) hx hb dX7_letGo_62 (by decide) ?_
  refine lv_isub hx hb dX7_letGo_63 ?_
  refine gx_top (y := nI (((16 + (k * 6)) + 6) - 1)) (pk_sub (a := (16 + (k * 6)) + 6) (b := 1) (by omega)) ?_
  refine lv_iconst (v := 0) hx hb dX7_letGo_64 (by decide) ?_
  refine gy_ist (i := (((16 + (k * 6)) + 6) - 1)) hx hb hK hP hD hS 1 rfl (by omega) (by omega) dX7_letGo_65 (fun H locs hP hD hS => ?_)
  have hP : va_P D vwCl [(h0, .inr (7, [.ref a1])), (a1, .inl (cI, 34, .inl (upd (va_cpy (upd f (9 + e_1) (f (16 + (k * 6)))) (upd f (9 + e_1) (f (16 + (k * 6)))) ((16 + (k * 6)) + 1) (16 + (k * 6)) 5) (((16 + (k * 6)) + 6) - 1) 0)))] H := hP
  have hD : va_D A [(h0, .inr (7, [.ref a1])), (a1, .inl (cI, 34, .inl (upd (va_cpy (upd f (9 + e_1) (f (16 + (k * 6)))) (upd f (9 + e_1) (f (16 + (k * 6)))) ((16 + (k * 6)) + 1) (16 + (k * 6)) 5) (((16 + (k * 6)) + 6) - 1) 0)))] := hD
  refine lv_iload_n hx hb dX7_letGo_66 rfl (lv_at hl 0 rfl) ?_
  refine lv_bipush (v := 7) hx hb dX7_letGo_67 (by decide) ?_
  refine lv_ishr hx hb dX7_letGo_69 ?_
  refine lv_sipush (v := 4095) hx hb dX7_letGo_70 (by decide) ?_
  refine lv_iand hx hb dX7_letGo_73 ?_
  refine gx_top (pk_and ((f (13 + k)) >>> ((7 : Int32) &&& 31)) (m := 4095) 12 (by decide +kernel)) ?_
  have hj3 : ((f (13 + k)) >>> ((7 : Int32) &&& 31)).toBitVec.toNat % 4096 < 4096 := Nat.mod_lt _ (by decide)
  refine lv_iconst (v := 2) hx hb dX7_letGo_74 (by decide) ?_
  refine lv_ishr hx hb dX7_letGo_75 ?_
  refine lv_istore (lv' := [(4, .int ((nI (((f (13 + k)) >>> ((7 : Int32) &&& 31)).toBitVec.toNat % 4096)) >>> ((2 : Int32) &&& 31))), (3, .int (f (13 + k))), (2, .int (nI (16 + (k * 6)))), (0, .ref h0), (1, .int (nI k))]) hx hb dX7_letGo_76 hl (by decide) rfl (fun ls hl => ?_)
  refine lv_iload_n hx hb dX7_letGo_78 rfl (lv_at hl 1 rfl) ?_
  refine lv_ldc hx hb hown (hts (.constant RX7 89 (-524161)) (by decide +kernel)) dX7_letGo_79 ?_
  refine lv_iand hx hb dX7_letGo_81 ?_
  refine lv_iload hx hb dX7_letGo_82 (lv_at hl 0 rfl) ?_
  refine lv_bipush (v := 7) hx hb dX7_letGo_84 (by decide) ?_
  refine lv_ishl hx hb dX7_letGo_86 ?_
  refine lv_ior hx hb dX7_letGo_87 ?_
  refine lv_istore_n (lv' := [(3, .int (((f (13 + k)) &&& (-524161)) ||| (((nI (((f (13 + k)) >>> ((7 : Int32) &&& 31)).toBitVec.toNat % 4096)) >>> ((2 : Int32) &&& 31)) <<< ((7 : Int32) &&& 31)))), (4, .int ((nI (((f (13 + k)) >>> ((7 : Int32) &&& 31)).toBitVec.toNat % 4096)) >>> ((2 : Int32) &&& 31))), (2, .int (nI (16 + (k * 6)))), (0, .ref h0), (1, .int (nI k))]) hx hb dX7_letGo_88 rfl hl (by decide) rfl (fun ls hl => ?_)
  refine lv_aload_n hx hb dX7_letGo_89 rfl (lv_at hl 3 rfl) ?_
  refine va_get (D := D) (ci := 7) (v := .ref a1) (C := RX7) (T := TX7) (N := 1) hx hb hts (fun _ h => List.mem_cons_of_mem _ (List.mem_append_right _ h)) hown hK hP 0 rfl rfl 0 (by decide) (hts (.fieldLink RX7 11 "LitmusHall$State" "words" "[I") (by decide +kernel)) (fun _ h9 => h9) rfl dX7_letGo_90 ?_
  refine lv_bipush (v := 13) hx hb dX7_letGo_93 (by decide) ?_
  refine lv_iload_n hx hb dX7_letGo_95 rfl (lv_at hl 4 rfl) ?_
  refine lv_iadd hx hb dX7_letGo_96 ?_
  refine gx_top (y := nI (13 + k)) (nI_add 13 k) ?_
  refine lv_iload_n hx hb dX7_letGo_97 rfl (lv_at hl 0 rfl) ?_
  refine lv_bipush (v := 16) hx hb dX7_letGo_98 (by decide) ?_
  refine lv_isub hx hb dX7_letGo_100 ?_
  refine gy_ist (i := (13 + k)) hx hb hK hP hD hS 1 rfl (by omega) (by omega) dX7_letGo_101 (fun H locs hP hD hS => ?_)
  have hP : va_P D vwCl [(h0, .inr (7, [.ref a1])), (a1, .inl (cI, 34, .inl (upd (upd (va_cpy (upd f (9 + e_1) (f (16 + (k * 6)))) (upd f (9 + e_1) (f (16 + (k * 6)))) ((16 + (k * 6)) + 1) (16 + (k * 6)) 5) (((16 + (k * 6)) + 6) - 1) 0) (13 + k) ((((f (13 + k)) &&& (-524161)) ||| (((nI (((f (13 + k)) >>> ((7 : Int32) &&& 31)).toBitVec.toNat % 4096)) >>> ((2 : Int32) &&& 31)) <<< ((7 : Int32) &&& 31))) - 16))))] H := hP
  have hD : va_D A [(h0, .inr (7, [.ref a1])), (a1, .inl (cI, 34, .inl (upd (upd (va_cpy (upd f (9 + e_1) (f (16 + (k * 6)))) (upd f (9 + e_1) (f (16 + (k * 6)))) ((16 + (k * 6)) + 1) (16 + (k * 6)) 5) (((16 + (k * 6)) + 6) - 1) 0) (13 + k) ((((f (13 + k)) &&& (-524161)) ||| (((nI (((f (13 + k)) >>> ((7 : Int32) &&& 31)).toBitVec.toNat % 4096)) >>> ((2 : Int32) &&& 31)) <<< ((7 : Int32) &&& 31))) - 16))))] := hD
  exact gx_vret (w' := [(h0, .inr (7, [.ref a1])), (a1, .inl (cI, 34, .inl (upd (upd (va_cpy (upd f (9 + e_1) (f (16 + (k * 6)))) (upd f (9 + e_1) (f (16 + (k * 6)))) ((16 + (k * 6)) + 1) (16 + (k * 6)) 5) (((16 + (k * 6)) + 6) - 1) 0) (13 + k) ((((f (13 + k)) &&& (-524161)) ||| (((nI (((f (13 + k)) >>> ((7 : Int32) &&& 31)).toBitVec.toNat % 4096)) >>> ((2 : Int32) &&& 31)) <<< ((7 : Int32) &&& 31))) - 16))))]) hx hb hr hlk hK hP hD hS (Nat.le_of_ble_eq_true rfl) (Nat.le_of_ble_eq_true rfl) dX7_letGo_102 ⟨(upd (upd (va_cpy (upd f (9 + e_1) (f (16 + (k * 6)))) (upd f (9 + e_1) (f (16 + (k * 6)))) ((16 + (k * 6)) + 1) (16 + (k * 6)) 5) (((16 + (k * 6)) + 6) - 1) 0) (13 + k) ((((f (13 + k)) &&& (-524161)) ||| (((nI (((f (13 + k)) >>> ((7 : Int32) &&& 31)).toBitVec.toNat % 4096)) >>> ((2 : Int32) &&& 31)) <<< ((7 : Int32) &&& 31))) - 16)), (gOkW_in' (gOkW_out (gOkW_cpy (gOkW_out hW (by omega)) (by omega)) (by omega)) (gLo_go hz (gOkW_lo hW hk))), rfl⟩
