theorem dX4_addBlank_0 : decode cX4_addBlank 0 = .ok (.iload_n 1, 1) := by decide +kernel
theorem dX4_addBlank_1 : decode cX4_addBlank 1 = .ok (.aload_n 0, 1) := by decide +kernel
theorem dX4_addBlank_10 : decode cX4_addBlank 10 = .ok (.istore_n 3, 1) := by decide +kernel
theorem dX4_addBlank_11 : decode cX4_addBlank 11 = .ok (.aload_n 0, 1) := by decide +kernel
theorem dX4_addBlank_12 : decode cX4_addBlank 12 = .ok (.getfield 9, 3) := by decide +kernel
theorem dX4_addBlank_15 : decode cX4_addBlank 15 = .ok (.iload_n 1, 1) := by decide +kernel
theorem dX4_addBlank_16 : decode cX4_addBlank 16 = .ok (.dup2, 1) := by decide +kernel
theorem dX4_addBlank_17 : decode cX4_addBlank 17 = .ok (.iaload, 1) := by decide +kernel
theorem dX4_addBlank_18 : decode cX4_addBlank 18 = .ok (.iconst 1, 1) := by decide +kernel
theorem dX4_addBlank_19 : decode cX4_addBlank 19 = .ok (.iadd, 1) := by decide +kernel
theorem dX4_addBlank_2 : decode cX4_addBlank 2 = .ok (.getfield 9, 3) := by decide +kernel
theorem dX4_addBlank_20 : decode cX4_addBlank 20 = .ok (.iastore, 1) := by decide +kernel
theorem dX4_addBlank_21 : decode cX4_addBlank 21 = .ok (.aload_n 0, 1) := by decide +kernel
theorem dX4_addBlank_22 : decode cX4_addBlank 22 = .ok (.getfield 18, 3) := by decide +kernel
theorem dX4_addBlank_25 : decode cX4_addBlank 25 = .ok (.iload_n 3, 1) := by decide +kernel
theorem dX4_addBlank_26 : decode cX4_addBlank 26 = .ok (.iconst 0, 1) := by decide +kernel
theorem dX4_addBlank_27 : decode cX4_addBlank 27 = .ok (.iadd, 1) := by decide +kernel
theorem dX4_addBlank_28 : decode cX4_addBlank 28 = .ok (.iload_n 2, 1) := by decide +kernel
theorem dX4_addBlank_29 : decode cX4_addBlank 29 = .ok (.iastore, 1) := by decide +kernel
theorem dX4_addBlank_30 : decode cX4_addBlank 30 = .ok (.aload_n 0, 1) := by decide +kernel
theorem dX4_addBlank_31 : decode cX4_addBlank 31 = .ok (.getfield 18, 3) := by decide +kernel
theorem dX4_addBlank_34 : decode cX4_addBlank 34 = .ok (.iload_n 3, 1) := by decide +kernel
theorem dX4_addBlank_35 : decode cX4_addBlank 35 = .ok (.iconst 1, 1) := by decide +kernel
theorem dX4_addBlank_36 : decode cX4_addBlank 36 = .ok (.iadd, 1) := by decide +kernel
theorem dX4_addBlank_37 : decode cX4_addBlank 37 = .ok (.iconst (-1), 1) := by decide +kernel
theorem dX4_addBlank_38 : decode cX4_addBlank 38 = .ok (.iastore, 1) := by decide +kernel
theorem dX4_addBlank_39 : decode cX4_addBlank 39 = .ok (.aload_n 0, 1) := by decide +kernel
theorem dX4_addBlank_40 : decode cX4_addBlank 40 = .ok (.getfield 18, 3) := by decide +kernel
theorem dX4_addBlank_43 : decode cX4_addBlank 43 = .ok (.iload_n 3, 1) := by decide +kernel
theorem dX4_addBlank_44 : decode cX4_addBlank 44 = .ok (.iconst 2, 1) := by decide +kernel
theorem dX4_addBlank_45 : decode cX4_addBlank 45 = .ok (.iadd, 1) := by decide +kernel
theorem dX4_addBlank_46 : decode cX4_addBlank 46 = .ok (.iconst (-1), 1) := by decide +kernel
theorem dX4_addBlank_47 : decode cX4_addBlank 47 = .ok (.iastore, 1) := by decide +kernel
theorem dX4_addBlank_48 : decode cX4_addBlank 48 = .ok (.aload_n 0, 1) := by decide +kernel
theorem dX4_addBlank_49 : decode cX4_addBlank 49 = .ok (.getfield 18, 3) := by decide +kernel
theorem dX4_addBlank_5 : decode cX4_addBlank 5 = .ok (.iload_n 1, 1) := by decide +kernel
theorem dX4_addBlank_52 : decode cX4_addBlank 52 = .ok (.iload_n 3, 1) := by decide +kernel
theorem dX4_addBlank_53 : decode cX4_addBlank 53 = .ok (.iconst 3, 1) := by decide +kernel
theorem dX4_addBlank_54 : decode cX4_addBlank 54 = .ok (.iadd, 1) := by decide +kernel
theorem dX4_addBlank_55 : decode cX4_addBlank 55 = .ok (.iconst (-1), 1) := by decide +kernel
theorem dX4_addBlank_56 : decode cX4_addBlank 56 = .ok (.iastore, 1) := by decide +kernel
theorem dX4_addBlank_57 : decode cX4_addBlank 57 = .ok (.aload_n 0, 1) := by decide +kernel
theorem dX4_addBlank_58 : decode cX4_addBlank 58 = .ok (.getfield 18, 3) := by decide +kernel
theorem dX4_addBlank_6 : decode cX4_addBlank 6 = .ok (.iaload, 1) := by decide +kernel
theorem dX4_addBlank_61 : decode cX4_addBlank 61 = .ok (.iload_n 3, 1) := by decide +kernel
theorem dX4_addBlank_62 : decode cX4_addBlank 62 = .ok (.iconst 3, 1) := by decide +kernel
theorem dX4_addBlank_63 : decode cX4_addBlank 63 = .ok (.iadd, 1) := by decide +kernel
theorem dX4_addBlank_64 : decode cX4_addBlank 64 = .ok (.iconst 1, 1) := by decide +kernel
theorem dX4_addBlank_65 : decode cX4_addBlank 65 = .ok (.iadd, 1) := by decide +kernel
theorem dX4_addBlank_66 : decode cX4_addBlank 66 = .ok (.iconst 0, 1) := by decide +kernel
theorem dX4_addBlank_67 : decode cX4_addBlank 67 = .ok (.iastore, 1) := by decide +kernel
theorem dX4_addBlank_68 : decode cX4_addBlank 68 = .ok (.aload_n 0, 1) := by decide +kernel
theorem dX4_addBlank_69 : decode cX4_addBlank 69 = .ok (.getfield 18, 3) := by decide +kernel
theorem dX4_addBlank_7 : decode cX4_addBlank 7 = .ok (.invokestatic 31, 3) := by decide +kernel
theorem dX4_addBlank_72 : decode cX4_addBlank 72 = .ok (.iload_n 3, 1) := by decide +kernel
theorem dX4_addBlank_73 : decode cX4_addBlank 73 = .ok (.iconst 5, 1) := by decide +kernel
theorem dX4_addBlank_74 : decode cX4_addBlank 74 = .ok (.iadd, 1) := by decide +kernel
theorem dX4_addBlank_75 : decode cX4_addBlank 75 = .ok (.iconst (-1), 1) := by decide +kernel
theorem dX4_addBlank_76 : decode cX4_addBlank 76 = .ok (.iastore, 1) := by decide +kernel
theorem dX4_addBlank_77 : decode cX4_addBlank 77 = .ok (.aload_n 0, 1) := by decide +kernel
theorem dX4_addBlank_78 : decode cX4_addBlank 78 = .ok (.getfield 18, 3) := by decide +kernel
theorem dX4_addBlank_81 : decode cX4_addBlank 81 = .ok (.iload_n 3, 1) := by decide +kernel
theorem dX4_addBlank_82 : decode cX4_addBlank 82 = .ok (.iconst 5, 1) := by decide +kernel
theorem dX4_addBlank_83 : decode cX4_addBlank 83 = .ok (.iadd, 1) := by decide +kernel
theorem dX4_addBlank_84 : decode cX4_addBlank 84 = .ok (.iconst 1, 1) := by decide +kernel
theorem dX4_addBlank_85 : decode cX4_addBlank 85 = .ok (.iadd, 1) := by decide +kernel
theorem dX4_addBlank_86 : decode cX4_addBlank 86 = .ok (.iconst 0, 1) := by decide +kernel
theorem dX4_addBlank_87 : decode cX4_addBlank 87 = .ok (.iastore, 1) := by decide +kernel
theorem dX4_addBlank_88 : decode cX4_addBlank 88 = .ok (.aload_n 0, 1) := by decide +kernel
theorem dX4_addBlank_89 : decode cX4_addBlank 89 = .ok (.getfield 18, 3) := by decide +kernel
theorem dX4_addBlank_92 : decode cX4_addBlank 92 = .ok (.iload_n 3, 1) := by decide +kernel
theorem dX4_addBlank_93 : decode cX4_addBlank 93 = .ok (.bipush 7, 2) := by decide +kernel
theorem dX4_addBlank_95 : decode cX4_addBlank 95 = .ok (.iadd, 1) := by decide +kernel
theorem dX4_addBlank_96 : decode cX4_addBlank 96 = .ok (.iconst 0, 1) := by decide +kernel
theorem dX4_addBlank_97 : decode cX4_addBlank 97 = .ok (.iastore, 1) := by decide +kernel
theorem dX4_addBlank_98 : decode cX4_addBlank 98 = .ok (.iload_n 3, 1) := by decide +kernel
theorem dX4_addBlank_99 : decode cX4_addBlank 99 = .ok (.ireturn, 1) := by decide +kernel
theorem dX4_within_0 : decode cX4_within 0 = .ok (.iload_n 2, 1) := by decide +kernel
theorem dX4_within_1 : decode cX4_within 1 = .ok (.iload_n 0, 1) := by decide +kernel
theorem dX4_within_12 : decode cX4_within 12 = .ok (.iconst 1, 1) := by decide +kernel
theorem dX4_within_13 : decode cX4_within 13 = .ok (.goto 4, 3) := by decide +kernel
theorem dX4_within_16 : decode cX4_within 16 = .ok (.iconst 0, 1) := by decide +kernel
theorem dX4_within_17 : decode cX4_within 17 = .ok (.ireturn, 1) := by decide +kernel
theorem dX4_within_2 : decode cX4_within 2 = .ok (.if_icmp .le 14, 3) := by decide +kernel
theorem dX4_within_5 : decode cX4_within 5 = .ok (.iload_n 2, 1) := by decide +kernel
theorem dX4_within_6 : decode cX4_within 6 = .ok (.iload_n 0, 1) := by decide +kernel
theorem dX4_within_7 : decode cX4_within 7 = .ok (.iload_n 1, 1) := by decide +kernel
theorem dX4_within_8 : decode cX4_within 8 = .ok (.iadd, 1) := by decide +kernel
theorem dX4_within_9 : decode cX4_within 9 = .ok (.if_icmp .gt 7, 3) := by decide +kernel
def gBlank (pf : Nat → Int32) (n : Nat) (x : Int32) : Nat → Int32 := upd (upd (upd (upd (upd (upd (upd (upd pf (n + 0) x) (n + 1) (-1)) (n + 2) (-1)) (n + 3) (-1)) ((n + 3) + 1) 0) (n + 5) (-1)) ((n + 5) + 1) 0) (n + 7) 0
def wsP_c_addBlank : List Cond := .code yX4_addBlank cX4_addBlank 4 (some .int) :: ([.fieldLink RX4 9 "LitmusHall$Program" "lengths" "[I", .methodLink RX4 31 yX4_partsAt, .static yX4_partsAt, .initialized RX4, .code yX4_partsAt cX4_partsAt 2 (some .int), .fieldLink RX4 18 "LitmusHall$Program" "parts" "[I"] ++ wsX40)
set_option maxRecDepth 20000 in
theorem gP_c_addBlank__c_partsAt : GoodIn wsP_c_addBlank (va_wsS RX4 31 yX4_partsAt wsP_c_partsAt) := goodIn_r _ [2, 3, 4, 5] (by decide +kernel) (by decide +kernel)
set_option maxHeartbeats 4000000 in
set_option maxRecDepth 100000 in
theorem c_addBlank (l : Launch) (D : va_G) (cI cB cZ : ClassId) (h0 : Nat) (a1 : Nat) (a3 : Nat) (v0 : Value) (v2 : Value) (L : Nat → Nat) (pf : Nat → Int32) (k : Nat) (n : Nat) (x : Int32) (hk : k < 3) (hl8 : L k < 8) (hn : ((k * 8) + (L k)) * 8 = n) : gMi l yX4_addBlank wsP_c_addBlank ({ frames := 1, cells := 0, slots := 0, locals := 21 }) D cI cB cZ [] [.ref h0, .int (nI k), .int x] [(h0, .inr (4, [v0, .ref a1, v2, .ref a3])), (a1, .inl (cI, 3, .inl (fun j => nI (L j)))), (a3, .inl (cI, 192, .inl pf))] (fun r9 w9 => r9 = (nI n) ∧ w9 = [(h0, .inr (4, [v0, .ref a1, v2, .ref a3])), (a1, .inl (cI, 3, .inl (fun j => nI ((updN L k ((L k) + 1)) j)))), (a3, .inl (cI, 192, .inl (gBlank pf n x)))]) := by
  refine gMi.of (cc := cX4_addBlank) (maxL := 4) (ret := (some .int)) (by decide) rfl (Nat.le_of_ble_eq_true rfl) (fun p e s m below meth c A ls hx hb hr hlk hml hts hown hin hA hP hK hD hS hN hl => ?_)
  have hown : s.vm.findClass RX4 = some m.cls := hown
  have hl : lv_has ls 4 [(0, .ref h0), (1, .int (nI k)), (2, .int x)] := hl
  refine lv_iload_n hx hb dX4_addBlank_0 rfl (lv_at hl 1 rfl) ?_
  refine lv_aload_n hx hb dX4_addBlank_1 rfl (lv_at hl 0 rfl) ?_
  refine va_get (D := D) (ci := 4) (v := .ref a1) (C := RX4) (T := TX4) (N := 4) hx hb hts (fun _ h => List.mem_cons_of_mem _ (List.mem_append_right _ h)) hown hK hP 0 rfl rfl 1 (by decide) (hts (.fieldLink RX4 9 "LitmusHall$Program" "lengths" "[I") (by decide +kernel)) (fun _ h9 => h9) rfl dX4_addBlank_2 ?_
  refine lv_iload_n hx hb dX4_addBlank_5 rfl (lv_at hl 1 rfl) ?_
  refine gy_ild (i := k) hx hb hK hP 1 rfl (by omega) (by omega) dX4_addBlank_6 ?_
  refine gx_top (y := nI (L k)) rfl ?_
  refine gx_goi (wc := []) (wr := [(h0, .inr (4, [v0, .ref a1, v2, .ref a3])), (a1, .inl (cI, 3, .inl (fun j => nI (L j)))), (a3, .inl (cI, 192, .inl pf))]) (va_runS (As := [.int (nI k), .int (nI (L k))]) (rest := []) ⟨hx, hb, hml, hown, hts⟩ (c_partsAt l D cI cB cZ k (L k) _) (va_cwS 2 hts gP_c_addBlank__c_partsAt rfl rfl rfl (by decide +kernel) ⟨Nat.le_of_ble_eq_true rfl, Nat.le_of_ble_eq_true rfl⟩) (gx_preS hK gN.nil hP hD [] rfl rfl) rfl rfl hl.1 rfl (lv_room (Nat.le_of_ble_eq_true rfl)) dX4_addBlank_7 ⟨Nat.le_of_ble_eq_true rfl, Nat.le_of_ble_eq_true rfl⟩) hP hD hS hA [] [0, 1, 2] rfl rfl rfl (by decide) (fun r1 w1 H locs hp hP hD hS => ?_)
  obtain ⟨h9, rfl⟩ := hp
  have h9 := h9.symm
  subst h9
  have hP : va_P D vwCl [(h0, .inr (4, [v0, .ref a1, v2, .ref a3])), (a1, .inl (cI, 3, .inl (fun j => nI (L j)))), (a3, .inl (cI, 192, .inl pf))] H := hP
  have hD : va_D A [(h0, .inr (4, [v0, .ref a1, v2, .ref a3])), (a1, .inl (cI, 3, .inl (fun j => nI (L j)))), (a3, .inl (cI, 192, .inl pf))] := hD
  refine gx_top (y := nI n) (by rw [hn]) ?_
  refine lv_istore_n (lv' := [(3, .int (nI n)), (0, .ref h0), (1, .int (nI k)), (2, .int x)]) hx hb dX4_addBlank_10 rfl hl (by decide) rfl (fun ls hl => ?_)
  refine lv_aload_n hx hb dX4_addBlank_11 rfl (lv_at hl 1 rfl) ?_
  refine va_get (D := D) (ci := 4) (v := .ref a1) (C := RX4) (T := TX4) (N := 4) hx hb hts (fun _ h => List.mem_cons_of_mem _ (List.mem_append_right _ h)) hown hK hP 0 rfl rfl 1 (by decide) (hts (.fieldLink RX4 9 "LitmusHall$Program" "lengths" "[I") (by decide +kernel)) (fun _ h9 => h9) rfl dX4_addBlank_12 ?_
  refine lv_iload_n hx hb dX4_addBlank_15 rfl (lv_at hl 2 rfl) ?_
  refine lv_dup2_11 hx hb dX4_addBlank_16 rfl rfl ?_
  refine gy_ild (i := k) hx hb hK hP 1 rfl (by omega) (by omega) dX4_addBlank_17 ?_
  refine gx_top (y := nI (L k)) rfl ?_
  refine lv_iconst (v := 1) hx hb dX4_addBlank_18 (by decide) ?_
  refine lv_iadd hx hb dX4_addBlank_19 ?_
  refine gx_top (y := nI ((L k) + 1)) (nI_add (L k) 1) ?_
  refine gy_istN (i := k) (v := ((L k) + 1)) hx hb hK hP hD hS 1 rfl (by omega) (by omega) dX4_addBlank_20 (fun H locs hP hD hS => ?_)
  have hP : va_P D vwCl [(h0, .inr (4, [v0, .ref a1, v2, .ref a3])), (a1, .inl (cI, 3, .inl (fun j => nI ((updN L k ((L k) + 1)) j)))), (a3, .inl (cI, 192, .inl pf))] H := hP
  have hD : va_D A [(h0, .inr (4, [v0, .ref a1, v2, .ref a3])), (a1, .inl (cI, 3, .inl (fun j => nI ((updN L k ((L k) + 1)) j)))), (a3, .inl (cI, 192, .inl pf))] := hD
  refine lv_aload_n hx hb dX4_addBlank_21 rfl (lv_at hl 1 rfl) ?_
  refine va_get (D := D) (ci := 4) (v := .ref a3) (C := RX4) (T := TX4) (N := 4) hx hb hts (fun _ h => List.mem_cons_of_mem _ (List.mem_append_right _ h)) hown hK hP 0 rfl rfl 3 (by decide) (hts (.fieldLink RX4 18 "LitmusHall$Program" "parts" "[I") (by decide +kernel)) (fun _ h9 => h9) rfl dX4_addBlank_22 ?_
  refine lv_iload_n hx hb dX4_addBlank_25 rfl (lv_at hl 0 rfl) ?_
  refine lv_iconst (v := 0) hx hb dX4_addBlank_26 (by decide) ?_
  refine lv_iadd hx hb dX4_addBlank_27 ?_
  refine gx_top (y := nI (n + 0)) (nI_add n 0) ?_
  refine lv_iload_n hx hb dX4_addBlank_28 rfl (lv_at hl 3 rfl) ?_
  refine gy_ist (i := (n + 0)) hx hb hK hP hD hS 2 rfl (by omega) (by omega) dX4_addBlank_29 (fun H locs hP hD hS => ?_)
  have hP : va_P D vwCl [(h0, .inr (4, [v0, .ref a1, v2, .ref a3])), (a1, .inl (cI, 3, .inl (fun j => nI ((updN L k ((L k) + 1)) j)))), (a3, .inl (cI, 192, .inl (upd pf (n + 0) x)))] H := hP
  have hD : va_D A [(h0, .inr (4, [v0, .ref a1, v2, .ref a3])), (a1, .inl (cI, 3, .inl (fun j => nI ((updN L k ((L k) + 1)) j)))), (a3, .inl (cI, 192, .inl (upd pf (n + 0) x)))] := hD
  refine lv_aload_n hx hb dX4_addBlank_30 rfl (lv_at hl 1 rfl) ?_
  refine va_get (D := D) (ci := 4) (v := .ref a3) (C := RX4) (T := TX4) (N := 4) hx hb hts (fun _ h => List.mem_cons_of_mem _ (List.mem_append_right _ h)) hown hK hP 0 rfl rfl 3 (by decide) (hts (.fieldLink RX4 18 "LitmusHall$Program" "parts" "[I") (by decide +kernel)) (fun _ h9 => h9) rfl dX4_addBlank_31 ?_
  refine lv_iload_n hx hb dX4_addBlank_34 rfl (lv_at hl 0 rfl) ?_
  refine lv_iconst (v := 1) hx hb dX4_addBlank_35 (by decide) ?_
  refine lv_iadd hx hb dX4_addBlank_36 ?_
  refine gx_top (y := nI (n + 1)) (nI_add n 1) ?_
  refine lv_iconst (v := (-1)) hx hb dX4_addBlank_37 (by decide) ?_
  refine gy_ist (i := (n + 1)) hx hb hK hP hD hS 2 rfl (by omega) (by omega) dX4_addBlank_38 (fun H locs hP hD hS => ?_)
  have hP : va_P D vwCl [(h0, .inr (4, [v0, .ref a1, v2, .ref a3])), (a1, .inl (cI, 3, .inl (fun j => nI ((updN L k ((L k) + 1)) j)))), (a3, .inl (cI, 192, .inl (upd (upd pf (n + 0) x) (n + 1) (-1))))] H := hP
  have hD : va_D A [(h0, .inr (4, [v0, .ref a1, v2, .ref a3])), (a1, .inl (cI, 3, .inl (fun j => nI ((updN L k ((L k) + 1)) j)))), (a3, .inl (cI, 192, .inl (upd (upd pf (n + 0) x) (n + 1) (-1))))] := hD
  refine lv_aload_n hx hb dX4_addBlank_39 rfl (lv_at hl 1 rfl) ?_
  refine va_get (D := D) (ci := 4) (v := .ref a3) (C := RX4) (T := TX4) (N := 4) hx hb hts (fun _ h => List.mem_cons_of_mem _ (List.mem_append_right _ h)) hown hK hP 0 rfl rfl 3 (by decide) (hts (.fieldLink RX4 18 "LitmusHall$Program" "parts" "[I") (by decide +kernel)) (fun _ h9 => h9) rfl dX4_addBlank_40 ?_
  refine lv_iload_n hx hb dX4_addBlank_43 rfl (lv_at hl 0 rfl) ?_
  refine lv_iconst (v := 2) hx hb dX4_addBlank_44 (by decide) ?_
  refine lv_iadd hx hb dX4_addBlank_45 ?_
  refine gx_top (y := nI (n + 2)) (nI_add n 2) ?_
  refine lv_iconst (v := (-1)) hx hb dX4_addBlank_46 (by decide) ?_
  refine gy_ist (i := (n + 2)) hx hb hK hP hD hS 2 rfl (by omega) (by omega) dX4_addBlank_47 (fun H locs hP hD hS => ?_)
  have hP : va_P D vwCl [(h0, .inr (4, [v0, .ref a1, v2, .ref a3])), (a1, .inl (cI, 3, .inl (fun j => nI ((updN L k ((L k) + 1)) j)))), (a3, .inl (cI, 192, .inl (upd (upd (upd pf (n + 0) x) (n + 1) (-1)) (n + 2) (-1))))] H := hP
  have hD : va_D A [(h0, .inr (4, [v0, .ref a1, v2, .ref a3])), (a1, .inl (cI, 3, .inl (fun j => nI ((updN L k ((L k) + 1)) j)))), (a3, .inl (cI, 192, .inl (upd (upd (upd pf (n + 0) x) (n + 1) (-1)) (n + 2) (-1))))] := hD
  refine lv_aload_n hx hb dX4_addBlank_48 rfl (lv_at hl 1 rfl) ?_
  refine va_get (D := D) (ci := 4) (v := .ref a3) (C := RX4) (T := TX4) (N := 4) hx hb hts (fun _ h => List.mem_cons_of_mem _ (List.mem_append_right _ h)) hown hK hP 0 rfl rfl 3 (by decide) (hts (.fieldLink RX4 18 "LitmusHall$Program" "parts" "[I") (by decide +kernel)) (fun _ h9 => h9) rfl dX4_addBlank_49 ?_
  refine lv_iload_n hx hb dX4_addBlank_52 rfl (lv_at hl 0 rfl) ?_
  refine lv_iconst (v := 3) hx hb dX4_addBlank_53 (by decide) ?_
  refine lv_iadd hx hb dX4_addBlank_54 ?_
  refine gx_top (y := nI (n + 3)) (nI_add n 3) ?_
  refine lv_iconst (v := (-1)) hx hb dX4_addBlank_55 (by decide) ?_
  refine gy_ist (i := (n + 3)) hx hb hK hP hD hS 2 rfl (by omega) (by omega) dX4_addBlank_56 (fun H locs hP hD hS => ?_)
  have hP : va_P D vwCl [(h0, .inr (4, [v0, .ref a1, v2, .ref a3])), (a1, .inl (cI, 3, .inl (fun j => nI ((updN L k ((L k) + 1)) j)))), (a3, .inl (cI, 192, .inl (upd (upd (upd (upd pf (n + 0) x) (n + 1) (-1)) (n + 2) (-1)) (n + 3) (-1))))] H := hP
  have hD : va_D A [(h0, .inr (4, [v0, .ref a1, v2, .ref a3])), (a1, .inl (cI, 3, .inl (fun j => nI ((updN L k ((L k) + 1)) j)))), (a3, .inl (cI, 192, .inl (upd (upd (upd (upd pf (n + 0) x) (n + 1) (-1)) (n + 2) (-1)) (n + 3) (-1))))] := hD
  refine lv_aload_n hx hb dX4_addBlank_57 rfl (lv_at hl 1 rfl) ?_
  refine va_get (D := D) (ci := 4) (v := .ref a3) (C := RX4) (T := TX4) (N := 4) hx hb hts (fun _ h => List.mem_cons_of_mem _ (List.mem_append_right _ h)) hown hK hP 0 rfl rfl 3 (by decide) (hts (.fieldLink RX4 18 "LitmusHall$Program" "parts" "[I") (by decide +kernel)) (fun _ h9 => h9) rfl dX4_addBlank_58 ?_
  refine lv_iload_n hx hb dX4_addBlank_61 rfl (lv_at hl 0 rfl) ?_
  refine lv_iconst (v := 3) hx hb dX4_addBlank_62 (by decide) ?_
  refine lv_iadd hx hb dX4_addBlank_63 ?_
  refine gx_top (y := nI (n + 3)) (nI_add n 3) ?_
  refine lv_iconst (v := 1) hx hb dX4_addBlank_64 (by decide) ?_
  refine lv_iadd hx hb dX4_addBlank_65 ?_
  refine gx_top (y := nI ((n + 3) + 1)) (nI_add (n + 3) 1) ?_
  refine lv_iconst (v := 0) hx hb dX4_addBlank_66 (by decide) ?_
  refine gy_ist (i := ((n + 3) + 1)) hx hb hK hP hD hS 2 rfl (by omega) (by omega) dX4_addBlank_67 (fun H locs hP hD hS => ?_)
  have hP : va_P D vwCl [(h0, .inr (4, [v0, .ref a1, v2, .ref a3])), (a1, .inl (cI, 3, .inl (fun j => nI ((updN L k ((L k) + 1)) j)))), (a3, .inl (cI, 192, .inl (upd (upd (upd (upd (upd pf (n + 0) x) (n + 1) (-1)) (n + 2) (-1)) (n + 3) (-1)) ((n + 3) + 1) 0)))] H := hP
  have hD : va_D A [(h0, .inr (4, [v0, .ref a1, v2, .ref a3])), (a1, .inl (cI, 3, .inl (fun j => nI ((updN L k ((L k) + 1)) j)))), (a3, .inl (cI, 192, .inl (upd (upd (upd (upd (upd pf (n + 0) x) (n + 1) (-1)) (n + 2) (-1)) (n + 3) (-1)) ((n + 3) + 1) 0)))] := hD
  refine lv_aload_n hx hb dX4_addBlank_68 rfl (lv_at hl 1 rfl) ?_
  refine va_get (D := D) (ci := 4) (v := .ref a3) (C := RX4) (T := TX4) (N := 4) hx hb hts (fun _ h => List.mem_cons_of_mem _ (List.mem_append_right _ h)) hown hK hP 0 rfl rfl 3 (by decide) (hts (.fieldLink RX4 18 "LitmusHall$Program" "parts" "[I") (by decide +kernel)) (fun _ h9 => h9) rfl dX4_addBlank_69 ?_
  refine lv_iload_n hx hb dX4_addBlank_72 rfl (lv_at hl 0 rfl) ?_
  refine lv_iconst (v := 5) hx hb dX4_addBlank_73 (by decide) ?_
  refine lv_iadd hx hb dX4_addBlank_74 ?_
  refine gx_top (y := nI (n + 5)) (nI_add n 5) ?_
  refine lv_iconst (v := (-1)) hx hb dX4_addBlank_75 (by decide) ?_
  refine gy_ist (i := (n + 5)) hx hb hK hP hD hS 2 rfl (by omega) (by omega) dX4_addBlank_76 (fun H locs hP hD hS => ?_)
  have hP : va_P D vwCl [(h0, .inr (4, [v0, .ref a1, v2, .ref a3])), (a1, .inl (cI, 3, .inl (fun j => nI ((updN L k ((L k) + 1)) j)))), (a3, .inl (cI, 192, .inl (upd (upd (upd (upd (upd (upd pf (n + 0) x) (n + 1) (-1)) (n + 2) (-1)) (n + 3) (-1)) ((n + 3) + 1) 0) (n + 5) (-1))))] H := hP
  have hD : va_D A [(h0, .inr (4, [v0, .ref a1, v2, .ref a3])), (a1, .inl (cI, 3, .inl (fun j => nI ((updN L k ((L k) + 1)) j)))), (a3, .inl (cI, 192, .inl (upd (upd (upd (upd (upd (upd pf (n + 0) x) (n + 1) (-1)) (n + 2) (-1)) (n + 3) (-1)) ((n + 3) + 1) 0) (n + 5) (-1))))] := hD
  refine lv_aload_n hx hb dX4_addBlank_77 rfl (lv_at hl 1 rfl) ?_
  refine va_get (D := D) (ci := 4) (v := .ref a3) (C := RX4) (T := TX4) (N := 4) hx hb hts (fun _ h => List.mem_cons_of_mem _ (List.mem_append_right _ h)) hown hK hP 0 rfl rfl 3 (by decide) (hts (.fieldLink RX4 18 "LitmusHall$Program" "parts" "[I") (by decide +kernel)) (fun _ h9 => h9) rfl dX4_addBlank_78 ?_
  refine lv_iload_n hx hb dX4_addBlank_81 rfl (lv_at hl 0 rfl) ?_
  refine lv_iconst (v := 5) hx hb dX4_addBlank_82 (by decide) ?_
  refine lv_iadd hx hb dX4_addBlank_83 ?_
  refine gx_top (y := nI (n + 5)) (nI_add n 5) ?_
  refine lv_iconst (v := 1) hx hb dX4_addBlank_84 (by decide) ?_
  refine lv_iadd hx hb dX4_addBlank_85 ?_
  refine gx_top (y := nI ((n + 5) + 1)) (nI_add (n + 5) 1) ?_
  refine lv_iconst (v := 0) hx hb dX4_addBlank_86 (by decide) ?_
  refine gy_ist (i := ((n + 5) + 1)) hx hb hK hP hD hS 2 rfl (by omega) (by omega) dX4_addBlank_87 (fun H locs hP hD hS => ?_)
  have hP : va_P D vwCl [(h0, .inr (4, [v0, .ref a1, v2, .ref a3])), (a1, .inl (cI, 3, .inl (fun j => nI ((updN L k ((L k) + 1)) j)))), (a3, .inl (cI, 192, .inl (upd (upd (upd (upd (upd (upd (upd pf (n + 0) x) (n + 1) (-1)) (n + 2) (-1)) (n + 3) (-1)) ((n + 3) + 1) 0) (n + 5) (-1)) ((n + 5) + 1) 0)))] H := hP
  have hD : va_D A [(h0, .inr (4, [v0, .ref a1, v2, .ref a3])), (a1, .inl (cI, 3, .inl (fun j => nI ((updN L k ((L k) + 1)) j)))), (a3, .inl (cI, 192, .inl (upd (upd (upd (upd (upd (upd (upd pf (n + 0) x) (n + 1) (-1)) (n + 2) (-1)) (n + 3) (-1)) ((n + 3) + 1) 0) (n + 5) (-1)) ((n + 5) + 1) 0)))] := hD
  refine lv_aload_n hx hb dX4_addBlank_88 rfl (lv_at hl 1 rfl) ?_
  refine va_get (D := D) (ci := 4) (v := .ref a3) (C := RX4) (T := TX4) (N := 4) hx hb hts (fun _ h => List.mem_cons_of_mem _ (List.mem_append_right _ h)) hown hK hP 0 rfl rfl 3 (by decide) (hts (.fieldLink RX4 18 "LitmusHall$Program" "parts" "[I") (by decide +kernel)) (fun _ h9 => h9) rfl dX4_addBlank_89 ?_
  refine lv_iload_n hx hb dX4_addBlank_92 rfl (lv_at hl 0 rfl) ?_
  refine lv_bipush (v := 7) hx hb dX4_addBlank_93 (by decide) ?_
  refine lv_iadd hx hb dX4_addBlank_95 ?_
  refine gx_top (y := nI (n + 7)) (nI_add n 7) ?_
  refine lv_iconst (v := 0) hx hb dX4_addBlank_96 (by decide) ?_
  refine gy_ist (i := (n + 7)) hx hb hK hP hD hS 2 rfl (by omega) (by omega) dX4_addBlank_97 (fun H locs hP hD hS => ?_)
  have hP : va_P D vwCl [(h0, .inr (4, [v0, .ref a1, v2, .ref a3])), (a1, .inl (cI, 3, .inl (fun j => nI ((updN L k ((L k) + 1)) j)))), (a3, .inl (cI, 192, .inl (upd (upd (upd (upd (upd (upd (upd (upd pf (n + 0) x) (n + 1) (-1)) (n + 2) (-1)) (n + 3) (-1)) ((n + 3) + 1) 0) (n + 5) (-1)) ((n + 5) + 1) 0) (n + 7) 0)))] H := hP
  have hD : va_D A [(h0, .inr (4, [v0, .ref a1, v2, .ref a3])), (a1, .inl (cI, 3, .inl (fun j => nI ((updN L k ((L k) + 1)) j)))), (a3, .inl (cI, 192, .inl (upd (upd (upd (upd (upd (upd (upd (upd pf (n + 0) x) (n + 1) (-1)) (n + 2) (-1)) (n + 3) (-1)) ((n + 3) + 1) 0) (n + 5) (-1)) ((n + 5) + 1) 0) (n + 7) 0)))] := hD
  refine lv_iload_n hx hb dX4_addBlank_98 rfl (lv_at hl 0 rfl) ?_
  exact gx_iret (w' := [(h0, .inr (4, [v0, .ref a1, v2, .ref a3])), (a1, .inl (cI, 3, .inl (fun j => nI ((updN L k ((L k) + 1)) j)))), (a3, .inl (cI, 192, .inl (gBlank pf n x)))]) hx hb hr hlk hK hP hD hS (Nat.le_of_ble_eq_true rfl) (Nat.le_of_ble_eq_true rfl) dX4_addBlank_99 ⟨rfl, rfl⟩