theorem dX6_isWord_0 : decode cX6_isWord 0 = .ok (.iconst 0, 1) := by decide +kernel
theorem dX6_isWord_1 : decode cX6_isWord 1 = .ok (.istore 4, 2) := by decide +kernel
theorem dX6_isWord_10 : decode cX6_isWord 10 = .ok (.iload_n 1, 1) := by decide +kernel
theorem dX6_isWord_11 : decode cX6_isWord 11 = .ok (.iload 4, 2) := by decide +kernel
theorem dX6_isWord_13 : decode cX6_isWord 13 = .ok (.iadd, 1) := by decide +kernel
theorem dX6_isWord_14 : decode cX6_isWord 14 = .ok (.baload, 1) := by decide +kernel
theorem dX6_isWord_15 : decode cX6_isWord 15 = .ok (.ldc 88, 2) := by decide +kernel
theorem dX6_isWord_17 : decode cX6_isWord 17 = .ok (.iload_n 3, 1) := by decide +kernel
theorem dX6_isWord_18 : decode cX6_isWord 18 = .ok (.bipush 6, 2) := by decide +kernel
theorem dX6_isWord_20 : decode cX6_isWord 20 = .ok (.imul, 1) := by decide +kernel
theorem dX6_isWord_21 : decode cX6_isWord 21 = .ok (.iload 4, 2) := by decide +kernel
theorem dX6_isWord_23 : decode cX6_isWord 23 = .ok (.iadd, 1) := by decide +kernel
theorem dX6_isWord_24 : decode cX6_isWord 24 = .ok (.invokevirtual 90, 3) := by decide +kernel
theorem dX6_isWord_27 : decode cX6_isWord 27 = .ok (.if_icmp .eq 5, 3) := by decide +kernel
theorem dX6_isWord_3 : decode cX6_isWord 3 = .ok (.iload 4, 2) := by decide +kernel
theorem dX6_isWord_30 : decode cX6_isWord 30 = .ok (.iconst 0, 1) := by decide +kernel
theorem dX6_isWord_31 : decode cX6_isWord 31 = .ok (.ireturn, 1) := by decide +kernel
theorem dX6_isWord_32 : decode cX6_isWord 32 = .ok (.iinc 4 1, 3) := by decide +kernel
theorem dX6_isWord_35 : decode cX6_isWord 35 = .ok (.goto (-32), 3) := by decide +kernel
theorem dX6_isWord_38 : decode cX6_isWord 38 = .ok (.ldc 88, 2) := by decide +kernel
theorem dX6_isWord_40 : decode cX6_isWord 40 = .ok (.iload_n 3, 1) := by decide +kernel
theorem dX6_isWord_41 : decode cX6_isWord 41 = .ok (.bipush 6, 2) := by decide +kernel
theorem dX6_isWord_43 : decode cX6_isWord 43 = .ok (.imul, 1) := by decide +kernel
theorem dX6_isWord_44 : decode cX6_isWord 44 = .ok (.iload_n 2, 1) := by decide +kernel
theorem dX6_isWord_45 : decode cX6_isWord 45 = .ok (.iadd, 1) := by decide +kernel
theorem dX6_isWord_46 : decode cX6_isWord 46 = .ok (.invokevirtual 90, 3) := by decide +kernel
theorem dX6_isWord_49 : decode cX6_isWord 49 = .ok (.bipush 32, 2) := by decide +kernel
theorem dX6_isWord_5 : decode cX6_isWord 5 = .ok (.iload_n 2, 1) := by decide +kernel
theorem dX6_isWord_51 : decode cX6_isWord 51 = .ok (.if_icmp .ne 7, 3) := by decide +kernel
theorem dX6_isWord_54 : decode cX6_isWord 54 = .ok (.iconst 1, 1) := by decide +kernel
theorem dX6_isWord_55 : decode cX6_isWord 55 = .ok (.goto 4, 3) := by decide +kernel
theorem dX6_isWord_58 : decode cX6_isWord 58 = .ok (.iconst 0, 1) := by decide +kernel
theorem dX6_isWord_59 : decode cX6_isWord 59 = .ok (.ireturn, 1) := by decide +kernel
theorem dX6_isWord_6 : decode cX6_isWord 6 = .ok (.if_icmp .ge 32, 3) := by decide +kernel
theorem dX6_isWord_9 : decode cX6_isWord 9 = .ok (.aload_n 0, 1) := by decide +kernel
theorem dX6_kindOf_0 : decode cX6_kindOf 0 = .ok (.aload_n 0, 1) := by decide +kernel
theorem dX6_kindOf_1 : decode cX6_kindOf 1 = .ok (.iload_n 1, 1) := by decide +kernel
theorem dX6_kindOf_10 : decode cX6_kindOf 10 = .ok (.iload_n 1, 1) := by decide +kernel
theorem dX6_kindOf_100 : decode cX6_kindOf 100 = .ok (.bipush 22, 2) := by decide +kernel
theorem dX6_kindOf_102 : decode cX6_kindOf 102 = .ok (.ireturn, 1) := by decide +kernel
theorem dX6_kindOf_11 : decode cX6_kindOf 11 = .ok (.iload_n 2, 1) := by decide +kernel
theorem dX6_kindOf_12 : decode cX6_kindOf 12 = .ok (.iload_n 1, 1) := by decide +kernel
theorem dX6_kindOf_13 : decode cX6_kindOf 13 = .ok (.isub, 1) := by decide +kernel
theorem dX6_kindOf_14 : decode cX6_kindOf 14 = .ok (.invokestatic 81, 3) := by decide +kernel
theorem dX6_kindOf_17 : decode cX6_kindOf 17 = .ok (.ireturn, 1) := by decide +kernel
theorem dX6_kindOf_18 : decode cX6_kindOf 18 = .ok (.aload_n 0, 1) := by decide +kernel
theorem dX6_kindOf_19 : decode cX6_kindOf 19 = .ok (.iload_n 1, 1) := by decide +kernel
theorem dX6_kindOf_2 : decode cX6_kindOf 2 = .ok (.baload, 1) := by decide +kernel
theorem dX6_kindOf_20 : decode cX6_kindOf 20 = .ok (.baload, 1) := by decide +kernel
theorem dX6_kindOf_21 : decode cX6_kindOf 21 = .ok (.invokestatic 78, 3) := by decide +kernel
theorem dX6_kindOf_24 : decode cX6_kindOf 24 = .ok (.ifCond .eq 18, 3) := by decide +kernel
theorem dX6_kindOf_27 : decode cX6_kindOf 27 = .ok (.iload_n 2, 1) := by decide +kernel
theorem dX6_kindOf_28 : decode cX6_kindOf 28 = .ok (.iload_n 1, 1) := by decide +kernel
theorem dX6_kindOf_29 : decode cX6_kindOf 29 = .ok (.isub, 1) := by decide +kernel
theorem dX6_kindOf_3 : decode cX6_kindOf 3 = .ok (.invokestatic 74, 3) := by decide +kernel
theorem dX6_kindOf_30 : decode cX6_kindOf 30 = .ok (.iconst 3, 1) := by decide +kernel
theorem dX6_kindOf_31 : decode cX6_kindOf 31 = .ok (.if_icmp .gt 8, 3) := by decide +kernel
theorem dX6_kindOf_34 : decode cX6_kindOf 34 = .ok (.bipush 16, 2) := by decide +kernel
theorem dX6_kindOf_36 : decode cX6_kindOf 36 = .ok (.goto 5, 3) := by decide +kernel
theorem dX6_kindOf_39 : decode cX6_kindOf 39 = .ok (.bipush 22, 2) := by decide +kernel
theorem dX6_kindOf_41 : decode cX6_kindOf 41 = .ok (.ireturn, 1) := by decide +kernel
theorem dX6_kindOf_42 : decode cX6_kindOf 42 = .ok (.aload_n 0, 1) := by decide +kernel
theorem dX6_kindOf_43 : decode cX6_kindOf 43 = .ok (.iload_n 1, 1) := by decide +kernel
theorem dX6_kindOf_44 : decode cX6_kindOf 44 = .ok (.baload, 1) := by decide +kernel
theorem dX6_kindOf_45 : decode cX6_kindOf 45 = .ok (.lookupswitch 55 #[(45, 52), (58, 43), (59, 46), (61, 49)], 43) := by decide +kernel
theorem dX6_kindOf_6 : decode cX6_kindOf 6 = .ok (.ifCond .eq 12, 3) := by decide +kernel
theorem dX6_kindOf_88 : decode cX6_kindOf 88 = .ok (.bipush 17, 2) := by decide +kernel
theorem dX6_kindOf_9 : decode cX6_kindOf 9 = .ok (.aload_n 0, 1) := by decide +kernel
theorem dX6_kindOf_90 : decode cX6_kindOf 90 = .ok (.ireturn, 1) := by decide +kernel
theorem dX6_kindOf_91 : decode cX6_kindOf 91 = .ok (.bipush 18, 2) := by decide +kernel
theorem dX6_kindOf_93 : decode cX6_kindOf 93 = .ok (.ireturn, 1) := by decide +kernel
theorem dX6_kindOf_94 : decode cX6_kindOf 94 = .ok (.bipush 19, 2) := by decide +kernel
theorem dX6_kindOf_96 : decode cX6_kindOf 96 = .ok (.ireturn, 1) := by decide +kernel
theorem dX6_kindOf_97 : decode cX6_kindOf 97 = .ok (.bipush 20, 2) := by decide +kernel
theorem dX6_kindOf_99 : decode cX6_kindOf 99 = .ok (.ireturn, 1) := by decide +kernel
theorem dX6_wordKind_0 : decode cX6_wordKind 0 = .ok (.iconst 0, 1) := by decide +kernel
theorem dX6_wordKind_1 : decode cX6_wordKind 1 = .ok (.istore_n 3, 1) := by decide +kernel
theorem dX6_wordKind_11 : decode cX6_wordKind 11 = .ok (.if_icmp .ge 15, 3) := by decide +kernel
theorem dX6_wordKind_14 : decode cX6_wordKind 14 = .ok (.aload_n 0, 1) := by decide +kernel
theorem dX6_wordKind_15 : decode cX6_wordKind 15 = .ok (.iload_n 1, 1) := by decide +kernel
theorem dX6_wordKind_16 : decode cX6_wordKind 16 = .ok (.iload_n 2, 1) := by decide +kernel
theorem dX6_wordKind_17 : decode cX6_wordKind 17 = .ok (.iload_n 3, 1) := by decide +kernel
theorem dX6_wordKind_18 : decode cX6_wordKind 18 = .ok (.invokestatic 84, 3) := by decide +kernel
theorem dX6_wordKind_2 : decode cX6_wordKind 2 = .ok (.iload_n 3, 1) := by decide +kernel
theorem dX6_wordKind_21 : decode cX6_wordKind 21 = .ok (.ifCond .eq 5, 3) := by decide +kernel
theorem dX6_wordKind_24 : decode cX6_wordKind 24 = .ok (.iload_n 3, 1) := by decide +kernel
theorem dX6_wordKind_25 : decode cX6_wordKind 25 = .ok (.ireturn, 1) := by decide +kernel
theorem dX6_wordKind_26 : decode cX6_wordKind 26 = .ok (.iinc 3 1, 3) := by decide +kernel
theorem dX6_wordKind_29 : decode cX6_wordKind 29 = .ok (.goto (-27), 3) := by decide +kernel
theorem dX6_wordKind_3 : decode cX6_wordKind 3 = .ok (.bipush 16, 2) := by decide +kernel
theorem dX6_wordKind_32 : decode cX6_wordKind 32 = .ok (.bipush 22, 2) := by decide +kernel
theorem dX6_wordKind_34 : decode cX6_wordKind 34 = .ok (.ireturn, 1) := by decide +kernel
theorem dX6_wordKind_5 : decode cX6_wordKind 5 = .ok (.if_icmp .ge 27, 3) := by decide +kernel
theorem dX6_wordKind_8 : decode cX6_wordKind 8 = .ok (.iload_n 2, 1) := by decide +kernel
theorem dX6_wordKind_9 : decode cX6_wordKind 9 = .ok (.bipush 6, 2) := by decide +kernel
def wsP_c_xWord : List Cond := .code yX6_isWord cX6_isWord 5 (some .boolean) :: (([.methodLink RX6 90 yJ0_charAt_5068e, .instanceMethod yJ0_charAt_5068e, .selects RJ0 yJ0_charAt_5068e yJ0_charAt_5068e, .initialized RJ0]) ++ (wsP_c_charAt ++ []))
theorem gW_c_xWord : wsP_c_xWord.all goodWord = true := by unfold wsP_c_xWord; exact gw_mk (by decide +kernel) (gw_app gW_c_charAt rfl)
set_option maxRecDepth 20000 in
theorem gP_c_xWord__c_charAt : GoodIn wsP_c_xWord (wsV RX6 90 RJ0 yJ0_charAt_5068e wsP_c_charAt) := gw_in (pre := [.methodLink RX6 90 yJ0_charAt_5068e, .instanceMethod yJ0_charAt_5068e, .selects RJ0 yJ0_charAt_5068e yJ0_charAt_5068e, .initialized RJ0]) (by decide +kernel) (fun _ h => List.mem_cons_of_mem _ (List.mem_append_right _ (List.mem_append_left _ h))) gW_c_charAt
set_option maxHeartbeats 4000000 in
set_option maxRecDepth 100000 in
theorem c_xWord (l : Launch) (D : va_G) (cI cB cZ : ClassId) (K : gKS) (a : Nat) (f : Nat → Int32) (fr : Nat) (sz : Nat) (w : Nat) (hw : w < 16) (hs6 : sz < 6) (hfs : fr + sz ≤ 4000) : gMiE l yX6_isWord wsP_c_xWord ({ frames := 4, cells := 0, slots := 0, locals := 85 }) D cI cB cZ K [] [.ref a, .int (nI fr), .int (nI sz), .int (nI w)] [(a, .inl (cB, 4000, .inl f))] (fun r9 w9 => ∃ z : Int32, (z = 0 ∨ z = 1) ∧ r9 = z ∧ w9 = [(a, .inl (cB, 4000, .inl f))]) := by
  refine gMiE.of (cc := cX6_isWord) (maxL := 5) (ret := (some .boolean)) (by decide) rfl (Nat.le_of_ble_eq_true rfl) (fun p e s m below meth c A ls hx hb hr hlk hml hts hown hin hA hP hK hD hS hN hE hl => ?_)
  have hown : s.vm.findClass RX6 = some m.cls := hown
  have hl : lv_has ls 5 [(0, .ref a), (1, .int (nI fr)), (2, .int (nI sz)), (3, .int (nI w))] := hl
  refine lv_iconst (v := 0) hx hb dX6_isWord_0 (by decide) ?_
  refine lv_istore (lv' := [(4, .int 0), (0, .ref a), (1, .int (nI fr)), (2, .int (nI sz)), (3, .int (nI w))]) hx hb dX6_isWord_1 hl (by decide) rfl (fun ls hl => ?_)
  refine gy_loop0 (I := fun (x9 : Nat) H locs ls => (x9 ≤ sz) ∧ va_P D vwCl [(a, .inl (cB, 4000, .inl f))] H ∧ va_D A [(a, .inl (cB, 4000, .inl f))] ∧ va_S A s.heap H locs ∧ lv_has ls 5 [(4, .int (nI x9)), (0, .ref a), (1, .int (nI fr)), (2, .int (nI sz)), (3, .int (nI w))]) (μ := fun (x9 : Nat) => sz - x9) (fun x9 H locs ls hI ih3 => ?_) 0 ⟨(by show 0 ≤ sz; omega), hP, hD, hS, lv_sub hl [0, 1, 2, 3, 4] rfl⟩
  obtain ⟨i, rfl⟩ : ∃ z9, z9 = x9 := ⟨_, rfl⟩
  obtain ⟨hi3_0, hP, hD, hS, hl⟩ := hI
  have hi3_0 : i ≤ sz := hi3_0
  have hP : va_P D vwCl [(a, .inl (cB, 4000, .inl f))] H := hP
  have hD : va_D A [(a, .inl (cB, 4000, .inl f))] := hD
  have hS : va_S A s.heap H locs := hS
  have hl : lv_has ls 5 [(4, .int (nI i)), (0, .ref a), (1, .int (nI fr)), (2, .int (nI sz)), (3, .int (nI w))] := hl
  refine lv_iload hx hb dX6_isWord_3 (lv_at hl 0 rfl) ?_
  refine lv_iload_n hx hb dX6_isWord_5 rfl (lv_at hl 3 rfl) ?_
  refine gy_ge (a := i) (b := sz) (tgt := 38) hx hb (by omega) (by omega) dX6_isWord_6 (by decide) (fun c_1 => ?_) (fun c_1 => ?_)
  · refine va_ldcS hx hb hown (hE.lit (88, 0) (by decide)) dX6_isWord_38 ?_
    refine lv_iload_n hx hb dX6_isWord_40 rfl (lv_at hl 4 rfl) ?_
    refine lv_bipush (v := 6) hx hb dX6_isWord_41 (by decide) ?_
    refine lv_imul hx hb dX6_isWord_43 ?_
    refine gx_top (y := nI (w * 6)) (pk_mul w 6) ?_
    refine lv_iload_n hx hb dX6_isWord_44 rfl (lv_at hl 3 rfl) ?_
    refine lv_iadd hx hb dX6_isWord_45 ?_
    refine gx_top (y := nI ((w * 6) + sz)) (nI_add (w * 6) sz) ?_
    refine gx_goi (wc := []) (wr := [(a, .inl (cB, 4000, .inl f))]) (va_runV (As := [.int (nI ((w * 6) + sz))]) (rest := []) ⟨hx, hb, hml, hown, hts⟩ (c_charAt l D cI cB cZ K 0 ((w * 6) + sz) (by omega) (by show _ < 96; omega) _) (cwV 1 hts gP_c_xWord__c_charAt rfl rfl rfl (by decide +kernel) ⟨Nat.le_of_ble_eq_true rfl, Nat.le_of_ble_eq_true rfl⟩) (ge_preK (j := 0) (by first | omega | decide) hE hS hA hK gN.nil hP hD [] rfl rfl) rfl rfl hl.1 rfl (lv_room (Nat.le_of_ble_eq_true rfl)) dX6_isWord_46 ⟨Nat.le_of_ble_eq_true rfl, Nat.le_of_ble_eq_true rfl⟩) hP hD hS hA [] [0] rfl rfl rfl (by decide) (fun r1 w1 H locs hp hP hD hS => ?_)
    obtain ⟨h9, rfl⟩ := hp
    have h9 := h9.symm
    subst h9
    have hP : va_P D vwCl [(a, .inl (cB, 4000, .inl f))] H := hP
    have hD : va_D A [(a, .inl (cB, 4000, .inl f))] := hD
    refine lv_bipush (v := 32) hx hb dX6_isWord_49 (by decide) ?_
    refine gy_ne (a := (((gByt.getD 0 []).getD ((w * 6) + sz) 0).toBitVec.toNat % 256)) (b := 32) (tgt := 58) hx hb (by omega) (by omega) dX6_isWord_51 (by decide) (fun c_2 => ?_) (fun c_2 => ?_)
    · refine lv_iconst (v := 0) hx hb dX6_isWord_58 (by decide) ?_
      exact gx_zret (w' := [(a, .inl (cB, 4000, .inl f))]) hx hb hr hlk hK hP hD hS (Nat.le_of_ble_eq_true rfl) (Nat.le_of_ble_eq_true rfl) dX6_isWord_59 rfl ⟨0, (by decide), rfl, rfl⟩
    · refine lv_iconst (v := 1) hx hb dX6_isWord_54 (by decide) ?_
      refine lv_goto (tgt := 59) hx hb dX6_isWord_55 (by decide) ?_
      exact gx_zret (w' := [(a, .inl (cB, 4000, .inl f))]) hx hb hr hlk hK hP hD hS (Nat.le_of_ble_eq_true rfl) (Nat.le_of_ble_eq_true rfl) dX6_isWord_59 rfl ⟨1, (by decide), rfl, rfl⟩
  · refine lv_aload_n hx hb dX6_isWord_9 rfl (lv_at hl 1 rfl) ?_
    refine lv_iload_n hx hb dX6_isWord_10 rfl (lv_at hl 2 rfl) ?_
    refine lv_iload hx hb dX6_isWord_11 (lv_at hl 0 rfl) ?_
    refine lv_iadd hx hb dX6_isWord_13 ?_
    refine gx_top (y := nI (fr + i)) (nI_add fr i) ?_
    refine gy_bld (i := (fr + i)) hx hb hK hP 0 rfl (by omega) (by omega) dX6_isWord_14 ?_
    refine gx_gen (fun z_3 => ?_)
    refine va_ldcS hx hb hown (hE.lit (88, 0) (by decide)) dX6_isWord_15 ?_
    refine lv_iload_n hx hb dX6_isWord_17 rfl (lv_at hl 4 rfl) ?_
    refine lv_bipush (v := 6) hx hb dX6_isWord_18 (by decide) ?_
    refine lv_imul hx hb dX6_isWord_20 ?_
    refine gx_top (y := nI (w * 6)) (pk_mul w 6) ?_
    refine lv_iload hx hb dX6_isWord_21 (lv_at hl 0 rfl) ?_
    refine lv_iadd hx hb dX6_isWord_23 ?_
    refine gx_top (y := nI ((w * 6) + i)) (nI_add (w * 6) i) ?_
    refine gx_goi (wc := []) (wr := [(a, .inl (cB, 4000, .inl f))]) (va_runV (As := [.int (nI ((w * 6) + i))]) (rest := [.int z_3]) ⟨hx, hb, hml, hown, hts⟩ (c_charAt l D cI cB cZ K 0 ((w * 6) + i) (by omega) (by show _ < 96; omega) _) (cwV 1 hts gP_c_xWord__c_charAt rfl rfl rfl (by decide +kernel) ⟨Nat.le_of_ble_eq_true rfl, Nat.le_of_ble_eq_true rfl⟩) (ge_preK (j := 0) (by first | omega | decide) hE hS hA hK gN.nil hP hD [] rfl rfl) rfl rfl hl.1 rfl (lv_room (Nat.le_of_ble_eq_true rfl)) dX6_isWord_24 ⟨Nat.le_of_ble_eq_true rfl, Nat.le_of_ble_eq_true rfl⟩) hP hD hS hA [] [0] rfl rfl rfl (by decide) (fun r1 w1 H locs hp hP hD hS => ?_)
    obtain ⟨h9, rfl⟩ := hp
    have h9 := h9.symm
    subst h9
    have hP : va_P D vwCl [(a, .inl (cB, 4000, .inl f))] H := hP
    have hD : va_D A [(a, .inl (cB, 4000, .inl f))] := hD
    refine lv_icmp_eq (tgt := 32) hx hb dX6_isWord_27 (by decide) (fun c_4 => ?_) (fun c_4 => ?_)
    · refine lv_iinc (v := nI (i + 1)) (lv' := [(4, .int (nI (i + 1))), (0, .ref a), (1, .int (nI fr)), (2, .int (nI sz)), (3, .int (nI w))]) hx hb dX6_isWord_32 hl (k := 0) rfl (nI_add i 1) (by decide) rfl (fun ls hl => ?_)
      refine lv_goto (tgt := 3) hx hb dX6_isWord_35 (by decide) ?_
      exact ih3 (i + 1) H locs ls ⟨(by show (i + 1) ≤ sz; omega), hP, hD, hS, lv_sub hl [0, 1, 2, 3, 4] rfl⟩ (by show sz - (i + 1) < sz - i; omega)
    · refine lv_iconst (v := 0) hx hb dX6_isWord_30 (by decide) ?_
      exact gx_zret (w' := [(a, .inl (cB, 4000, .inl f))]) hx hb hr hlk hK hP hD hS (Nat.le_of_ble_eq_true rfl) (Nat.le_of_ble_eq_true rfl) dX6_isWord_31 rfl ⟨0, (by decide), rfl, rfl⟩
def wsP_c_wordKind : List Cond := .code yX6_wordKind cX6_wordKind 4 (some .int) :: (([.methodLink RX6 84 yX6_isWord, .static yX6_isWord, .initialized yX6_isWord.cls]) ++ (wsP_c_xWord ++ []))
theorem gW_c_wordKind : wsP_c_wordKind.all goodWord = true := by unfold wsP_c_wordKind; exact gw_mk (by decide +kernel) (gw_app gW_c_xWord rfl)
set_option maxRecDepth 20000 in
theorem gP_c_wordKind__c_xWord : GoodIn wsP_c_wordKind (va_wsS RX6 84 yX6_isWord wsP_c_xWord) := gw_in (pre := [.methodLink RX6 84 yX6_isWord, .static yX6_isWord, .initialized yX6_isWord.cls]) (by decide +kernel) (fun _ h => List.mem_cons_of_mem _ (List.mem_append_right _ (List.mem_append_left _ h))) gW_c_xWord
set_option maxHeartbeats 4000000 in
set_option maxRecDepth 100000 in
theorem c_wordKind (l : Launch) (D : va_G) (cI cB cZ : ClassId) (K : gKS) (a : Nat) (f : Nat → Int32) (fr : Nat) (sz : Nat) (hfs : fr + sz ≤ 4000) : gMiE l yX6_wordKind wsP_c_wordKind ({ frames := 5, cells := 0, slots := 0, locals := 109 }) D cI cB cZ K [] [.ref a, .int (nI fr), .int (nI sz)] [(a, .inl (cB, 4000, .inl f))] (fun r9 w9 => ∃ q : Nat, (q < 16 ∨ q = 22) ∧ r9 = (nI q) ∧ w9 = [(a, .inl (cB, 4000, .inl f))]) := by
  refine gMiE.of (cc := cX6_wordKind) (maxL := 4) (ret := (some .int)) (by decide) rfl (Nat.le_of_ble_eq_true rfl) (fun p e s m below meth c A ls hx hb hr hlk hml hts hown hin hA hP hK hD hS hN hE hl => ?_)
  have hown : s.vm.findClass RX6 = some m.cls := hown
  have hl : lv_has ls 4 [(0, .ref a), (1, .int (nI fr)), (2, .int (nI sz))] := hl
  refine lv_iconst (v := 0) hx hb dX6_wordKind_0 (by decide) ?_
  refine lv_istore_n (lv' := [(3, .int 0), (0, .ref a), (1, .int (nI fr)), (2, .int (nI sz))]) hx hb dX6_wordKind_1 rfl hl (by decide) rfl (fun ls hl => ?_)
  refine gy_loop0 (I := fun (x9 : Nat) H locs ls => (x9 ≤ 16) ∧ va_P D vwCl [(a, .inl (cB, 4000, .inl f))] H ∧ va_D A [(a, .inl (cB, 4000, .inl f))] ∧ va_S A s.heap H locs ∧ lv_has ls 4 [(3, .int (nI x9)), (0, .ref a), (1, .int (nI fr)), (2, .int (nI sz))]) (μ := fun (x9 : Nat) => 16 - x9) (fun x9 H locs ls hI ih2 => ?_) 0 ⟨(by show 0 ≤ 16; omega), hP, hD, hS, lv_sub hl [0, 1, 2, 3] rfl⟩
  obtain ⟨w, rfl⟩ : ∃ z9, z9 = x9 := ⟨_, rfl⟩
  obtain ⟨hi2_0, hP, hD, hS, hl⟩ := hI
  have hi2_0 : w ≤ 16 := hi2_0
  have hP : va_P D vwCl [(a, .inl (cB, 4000, .inl f))] H := hP
  have hD : va_D A [(a, .inl (cB, 4000, .inl f))] := hD
  have hS : va_S A s.heap H locs := hS
  have hl : lv_has ls 4 [(3, .int (nI w)), (0, .ref a), (1, .int (nI fr)), (2, .int (nI sz))] := hl
  refine lv_iload_n hx hb dX6_wordKind_2 rfl (lv_at hl 0 rfl) ?_
  refine lv_bipush (v := 16) hx hb dX6_wordKind_3 (by decide) ?_
  refine gy_ge (a := w) (b := 16) (tgt := 32) hx hb (by omega) (by omega) dX6_wordKind_5 (by decide) (fun c_1 => ?_) (fun c_1 => ?_)
  · refine lv_bipush (v := 22) hx hb dX6_wordKind_32 (by decide) ?_
    exact gx_iret (w' := [(a, .inl (cB, 4000, .inl f))]) hx hb hr hlk hK hP hD hS (Nat.le_of_ble_eq_true rfl) (Nat.le_of_ble_eq_true rfl) dX6_wordKind_34 ⟨22, (by omega), rfl, rfl⟩
  · refine lv_iload_n hx hb dX6_wordKind_8 rfl (lv_at hl 3 rfl) ?_
    refine lv_bipush (v := 6) hx hb dX6_wordKind_9 (by decide) ?_
    refine gy_ge (a := sz) (b := 6) (tgt := 26) hx hb (by omega) (by omega) dX6_wordKind_11 (by decide) (fun c_2 => ?_) (fun c_2 => ?_)
    · refine lv_iinc (v := nI (w + 1)) (lv' := [(3, .int (nI (w + 1))), (0, .ref a), (1, .int (nI fr)), (2, .int (nI sz))]) hx hb dX6_wordKind_26 hl (k := 0) rfl (nI_add w 1) (by decide) rfl (fun ls hl => ?_)
      refine lv_goto (tgt := 2) hx hb dX6_wordKind_29 (by decide) ?_
      exact ih2 (w + 1) H locs ls ⟨(by show (w + 1) ≤ 16; omega), hP, hD, hS, lv_sub hl [0, 1, 2, 3] rfl⟩ (by show 16 - (w + 1) < 16 - w; omega)
    · refine lv_aload_n hx hb dX6_wordKind_14 rfl (lv_at hl 1 rfl) ?_
      refine lv_iload_n hx hb dX6_wordKind_15 rfl (lv_at hl 2 rfl) ?_
      refine lv_iload_n hx hb dX6_wordKind_16 rfl (lv_at hl 3 rfl) ?_
      refine lv_iload_n hx hb dX6_wordKind_17 rfl (lv_at hl 0 rfl) ?_
      refine gx_goi (wc := [(a, .inl (cB, 4000, .inl f))]) (wr := []) (va_runS (As := [.ref a, .int (nI fr), .int (nI sz), .int (nI w)]) (rest := []) ⟨hx, hb, hml, hown, hts⟩ (c_xWord l D cI cB cZ K a f fr sz w (by omega) (by omega) (by omega) _) (va_cwS 4 hts gP_c_wordKind__c_xWord rfl rfl rfl (by decide +kernel) ⟨Nat.le_of_ble_eq_true rfl, Nat.le_of_ble_eq_true rfl⟩) (ge_preS hE hS hA hK gN.nil hP hD [0] rfl rfl) rfl rfl hl.1 rfl (lv_room (Nat.le_of_ble_eq_true rfl)) dX6_wordKind_18 ⟨Nat.le_of_ble_eq_true rfl, Nat.le_of_ble_eq_true rfl⟩) hP hD hS hA [0] [] rfl rfl rfl (by decide) (fun r1 w1 H locs hp hP hD hS => ?_)
      obtain ⟨e_3, hq_4, h9, rfl⟩ := hp
      have h9 := h9.symm
      subst h9
      have hq_4 : e_3 = 0 ∨ e_3 = 1 := hq_4
      have hP : va_P D vwCl [(a, .inl (cB, 4000, .inl f))] H := hP
      have hD : va_D A [(a, .inl (cB, 4000, .inl f))] := hD
      refine lv_if_eq (tgt := 26) hx hb dX6_wordKind_21 (by decide) (fun c_5 => ?_) (fun c_5 => ?_)
      · refine lv_iinc (v := nI (w + 1)) (lv' := [(3, .int (nI (w + 1))), (0, .ref a), (1, .int (nI fr)), (2, .int (nI sz))]) hx hb dX6_wordKind_26 hl (k := 0) rfl (nI_add w 1) (by decide) rfl (fun ls hl => ?_)
        refine lv_goto (tgt := 2) hx hb dX6_wordKind_29 (by decide) ?_
        exact ih2 (w + 1) H locs ls ⟨(by show (w + 1) ≤ 16; omega), hP, hD, hS, lv_sub hl [0, 1, 2, 3] rfl⟩ (by show 16 - (w + 1) < 16 - w; omega)
      · refine lv_iload_n hx hb dX6_wordKind_24 rfl (lv_at hl 0 rfl) ?_
        exact gx_iret (w' := [(a, .inl (cB, 4000, .inl f))]) hx hb hr hlk hK hP hD hS (Nat.le_of_ble_eq_true rfl) (Nat.le_of_ble_eq_true rfl) dX6_wordKind_25 ⟨w, (by omega), rfl, rfl⟩
theorem gW_c_isLetter : wsP_c_isLetter.all goodWord = true := by decide +kernel
theorem gW_c_isDigit : wsP_c_isDigit.all goodWord = true := by decide +kernel
def wsP_c_kindOf : List Cond := .code yX6_kindOf cX6_kindOf 3 (some .int) :: (([.methodLink RX6 74 yX6_isLetter, .static yX6_isLetter, .initialized yX6_isLetter.cls, .methodLink RX6 78 yX6_isDigit, .static yX6_isDigit, .initialized yX6_isDigit.cls, .methodLink RX6 81 yX6_wordKind, .static yX6_wordKind, .initialized yX6_wordKind.cls]) ++ (wsP_c_isLetter ++ (wsP_c_isDigit ++ (wsP_c_wordKind ++ []))))
theorem gW_c_kindOf : wsP_c_kindOf.all goodWord = true := by unfold wsP_c_kindOf; exact gw_mk (by decide +kernel) (gw_app gW_c_isLetter (gw_app gW_c_isDigit (gw_app gW_c_wordKind rfl)))
set_option maxRecDepth 20000 in
theorem gP_c_kindOf__c_isLetter : GoodIn wsP_c_kindOf (va_wsS RX6 74 yX6_isLetter wsP_c_isLetter) := gw_in (pre := [.methodLink RX6 74 yX6_isLetter, .static yX6_isLetter, .initialized yX6_isLetter.cls]) (by decide +kernel) (fun _ h => List.mem_cons_of_mem _ (List.mem_append_right _ (List.mem_append_left _ h))) gW_c_isLetter
set_option maxRecDepth 20000 in
theorem gP_c_kindOf__c_isDigit : GoodIn wsP_c_kindOf (va_wsS RX6 78 yX6_isDigit wsP_c_isDigit) := gw_in (pre := [.methodLink RX6 78 yX6_isDigit, .static yX6_isDigit, .initialized yX6_isDigit.cls]) (by decide +kernel) (fun _ h => List.mem_cons_of_mem _ (List.mem_append_right _ (List.mem_append_right _ (List.mem_append_left _ h)))) gW_c_isDigit
set_option maxRecDepth 20000 in
theorem gP_c_kindOf__c_wordKind : GoodIn wsP_c_kindOf (va_wsS RX6 81 yX6_wordKind wsP_c_wordKind) := gw_in (pre := [.methodLink RX6 81 yX6_wordKind, .static yX6_wordKind, .initialized yX6_wordKind.cls]) (by decide +kernel) (fun _ h => List.mem_cons_of_mem _ (List.mem_append_right _ (List.mem_append_right _ (List.mem_append_right _ (List.mem_append_left _ h))))) gW_c_wordKind
set_option maxHeartbeats 4000000 in
set_option maxRecDepth 100000 in
theorem c_kindOf (l : Launch) (D : va_G) (cI cB cZ : ClassId) (K : gKS) (a : Nat) (f : Nat → Int32) (fr : Nat) (bh : Nat) (hfb : fr < bh) (hbh : bh ≤ 4000) : gMiE l yX6_kindOf wsP_c_kindOf ({ frames := 6, cells := 0, slots := 0, locals := 132 }) D cI cB cZ K [] [.ref a, .int (nI fr), .int (nI bh)] [(a, .inl (cB, 4000, .inl f))] (fun r9 w9 => ∃ q : Nat, (q ≤ 22) ∧ (q = 16 → (¬ f fr < 48 ∧ ¬ 57 < f fr) ∧ bh ≤ fr + 3) ∧ r9 = (nI q) ∧ w9 = [(a, .inl (cB, 4000, .inl f))]) := by
  refine gMiE.of (cc := cX6_kindOf) (maxL := 3) (ret := (some .int)) (by decide) rfl (Nat.le_of_ble_eq_true rfl) (fun p e s m below meth c A ls hx hb hr hlk hml hts hown hin hA hP hK hD hS hN hE hl => ?_)
  have hown : s.vm.findClass RX6 = some m.cls := hown
  have hl : lv_has ls 3 [(0, .ref a), (1, .int (nI fr)), (2, .int (nI bh))] := hl
  refine lv_aload_n hx hb dX6_kindOf_0 rfl (lv_at hl 0 rfl) ?_
  refine lv_iload_n hx hb dX6_kindOf_1 rfl (lv_at hl 1 rfl) ?_
  refine gy_bld (i := fr) hx hb hK hP 0 rfl (by omega) (by omega) dX6_kindOf_2 ?_
  refine gx_goi (wc := []) (wr := [(a, .inl (cB, 4000, .inl f))]) (va_runS (As := [.int (f fr)]) (rest := []) ⟨hx, hb, hml, hown, hts⟩ (c_isLetter l D cI cB cZ (f fr) _) (va_cwS 1 hts gP_c_kindOf__c_isLetter rfl rfl rfl (by decide +kernel) ⟨Nat.le_of_ble_eq_true rfl, Nat.le_of_ble_eq_true rfl⟩) (gx_preS hK gN.nil hP hD [] rfl rfl) rfl rfl hl.1 rfl (lv_room (Nat.le_of_ble_eq_true rfl)) dX6_kindOf_3 ⟨Nat.le_of_ble_eq_true rfl, Nat.le_of_ble_eq_true rfl⟩) hP hD hS hA [] [0] rfl rfl rfl (by decide) (fun r1 w1 H locs hp hP hD hS => ?_)
  obtain ⟨h9, rfl⟩ := hp
  have h9 := h9.symm
  subst h9
  have hP : va_P D vwCl [(a, .inl (cB, 4000, .inl f))] H := hP
  have hD : va_D A [(a, .inl (cB, 4000, .inl f))] := hD
  refine lv_if_eq (tgt := 18) hx hb dX6_kindOf_6 (by decide) (fun c_1 => ?_) (fun c_1 => ?_)
  · have c_1 : ¬ (¬ (f fr) < 97 ∧ ¬ 122 < (f fr)) := gy_b0 c_1
    refine lv_aload_n hx hb dX6_kindOf_18 rfl (lv_at hl 0 rfl) ?_
    refine lv_iload_n hx hb dX6_kindOf_19 rfl (lv_at hl 1 rfl) ?_
    refine gy_bld (i := fr) hx hb hK hP 0 rfl (by omega) (by omega) dX6_kindOf_20 ?_
    refine gx_goi (wc := []) (wr := [(a, .inl (cB, 4000, .inl f))]) (va_runS (As := [.int (f fr)]) (rest := []) ⟨hx, hb, hml, hown, hts⟩ (c_isDigit l D cI cB cZ (f fr) _) (va_cwS 1 hts gP_c_kindOf__c_isDigit rfl rfl rfl (by decide +kernel) ⟨Nat.le_of_ble_eq_true rfl, Nat.le_of_ble_eq_true rfl⟩) (gx_preS hK gN.nil hP hD [] rfl rfl) rfl rfl hl.1 rfl (lv_room (Nat.le_of_ble_eq_true rfl)) dX6_kindOf_21 ⟨Nat.le_of_ble_eq_true rfl, Nat.le_of_ble_eq_true rfl⟩) hP hD hS hA [] [0] rfl rfl rfl (by decide) (fun r1 w1 H locs hp hP hD hS => ?_)
    obtain ⟨h9, rfl⟩ := hp
    have h9 := h9.symm
    subst h9
    have hP : va_P D vwCl [(a, .inl (cB, 4000, .inl f))] H := hP
    have hD : va_D A [(a, .inl (cB, 4000, .inl f))] := hD
    refine lv_if_eq (tgt := 42) hx hb dX6_kindOf_24 (by decide) (fun c_2 => ?_) (fun c_2 => ?_)
    · have c_2 : ¬ (¬ (f fr) < 48 ∧ ¬ 57 < (f fr)) := gy_b0 c_2
      refine lv_aload_n hx hb dX6_kindOf_42 rfl (lv_at hl 0 rfl) ?_
      refine lv_iload_n hx hb dX6_kindOf_43 rfl (lv_at hl 1 rfl) ?_
      refine gy_bld (i := fr) hx hb hK hP 0 rfl (by omega) (by omega) dX6_kindOf_44 ?_
      by_cases c_3 : f fr = 45
      · refine lv_lookup (off := 52) (tgt := 97) hx hb dX6_kindOf_45 (by decide) (by rw [c_3]; decide +kernel) (by decide) ?_
        refine lv_bipush (v := 20) hx hb dX6_kindOf_97 (by decide) ?_
        exact gx_iret (w' := [(a, .inl (cB, 4000, .inl f))]) hx hb hr hlk hK hP hD hS (Nat.le_of_ble_eq_true rfl) (Nat.le_of_ble_eq_true rfl) dX6_kindOf_99 ⟨20, (by omega), (fun h => absurd h (by omega)), rfl, rfl⟩
      · by_cases c_4 : f fr = 58
        · refine lv_lookup (off := 43) (tgt := 88) hx hb dX6_kindOf_45 (by decide) (by rw [c_4]; decide +kernel) (by decide) ?_
          refine lv_bipush (v := 17) hx hb dX6_kindOf_88 (by decide) ?_
          exact gx_iret (w' := [(a, .inl (cB, 4000, .inl f))]) hx hb hr hlk hK hP hD hS (Nat.le_of_ble_eq_true rfl) (Nat.le_of_ble_eq_true rfl) dX6_kindOf_90 ⟨17, (by omega), (fun h => absurd h (by omega)), rfl, rfl⟩
        · by_cases c_5 : f fr = 59
          · refine lv_lookup (off := 46) (tgt := 91) hx hb dX6_kindOf_45 (by decide) (by rw [c_5]; decide +kernel) (by decide) ?_
            refine lv_bipush (v := 18) hx hb dX6_kindOf_91 (by decide) ?_
            exact gx_iret (w' := [(a, .inl (cB, 4000, .inl f))]) hx hb hr hlk hK hP hD hS (Nat.le_of_ble_eq_true rfl) (Nat.le_of_ble_eq_true rfl) dX6_kindOf_93 ⟨18, (by omega), (fun h => absurd h (by omega)), rfl, rfl⟩
          · by_cases c_6 : f fr = 61
            · refine lv_lookup (off := 49) (tgt := 94) hx hb dX6_kindOf_45 (by decide) (by rw [c_6]; decide +kernel) (by decide) ?_
              refine lv_bipush (v := 19) hx hb dX6_kindOf_94 (by decide) ?_
              exact gx_iret (w' := [(a, .inl (cB, 4000, .inl f))]) hx hb hr hlk hK hP hD hS (Nat.le_of_ble_eq_true rfl) (Nat.le_of_ble_eq_true rfl) dX6_kindOf_96 ⟨19, (by omega), (fun h => absurd h (by omega)), rfl, rfl⟩
            · refine lv_lookup (off := 55) (tgt := 100) hx hb dX6_kindOf_45 (by decide) (by rw [lv_osw c_3 (by decide), lv_osw c_4 (by decide), lv_osw c_5 (by decide), lv_osw c_6 (by decide)]; rfl) (by decide) ?_
              refine lv_bipush (v := 22) hx hb dX6_kindOf_100 (by decide) ?_
              exact gx_iret (w' := [(a, .inl (cB, 4000, .inl f))]) hx hb hr hlk hK hP hD hS (Nat.le_of_ble_eq_true rfl) (Nat.le_of_ble_eq_true rfl) dX6_kindOf_102 ⟨22, (by omega), (fun h => absurd h (by omega)), rfl, rfl⟩
    · have c_2 : ¬ (f fr) < 48 ∧ ¬ 57 < (f fr) := gy_b1 c_2
      have hdg := c_2
      refine lv_iload_n hx hb dX6_kindOf_27 rfl (lv_at hl 2 rfl) ?_
      refine lv_iload_n hx hb dX6_kindOf_28 rfl (lv_at hl 1 rfl) ?_
      refine lv_isub hx hb dX6_kindOf_29 ?_
      refine gx_top (y := nI (bh - fr)) (pk_sub (a := bh) (b := fr) (by omega)) ?_
      refine lv_iconst (v := 3) hx hb dX6_kindOf_30 (by decide) ?_
      refine gy_gt (a := (bh - fr)) (b := 3) (tgt := 39) hx hb (by omega) (by omega) dX6_kindOf_31 (by decide) (fun c_7 => ?_) (fun c_7 => ?_)
      · refine lv_bipush (v := 22) hx hb dX6_kindOf_39 (by decide) ?_
        exact gx_iret (w' := [(a, .inl (cB, 4000, .inl f))]) hx hb hr hlk hK hP hD hS (Nat.le_of_ble_eq_true rfl) (Nat.le_of_ble_eq_true rfl) dX6_kindOf_41 ⟨22, (by omega), (by first | exact (fun h => absurd h (by omega)) | exact fun _ => ⟨hdg, by omega⟩), rfl, rfl⟩
      · refine lv_bipush (v := 16) hx hb dX6_kindOf_34 (by decide) ?_
        refine lv_goto (tgt := 41) hx hb dX6_kindOf_36 (by decide) ?_
        exact gx_iret (w' := [(a, .inl (cB, 4000, .inl f))]) hx hb hr hlk hK hP hD hS (Nat.le_of_ble_eq_true rfl) (Nat.le_of_ble_eq_true rfl) dX6_kindOf_41 ⟨16, (by omega), (by first | exact (fun h => absurd h (by omega)) | exact fun _ => ⟨hdg, by omega⟩), rfl, rfl⟩
  · have c_1 : ¬ (f fr) < 97 ∧ ¬ 122 < (f fr) := gy_b1 c_1
    refine lv_aload_n hx hb dX6_kindOf_9 rfl (lv_at hl 0 rfl) ?_
    refine lv_iload_n hx hb dX6_kindOf_10 rfl (lv_at hl 1 rfl) ?_
    refine lv_iload_n hx hb dX6_kindOf_11 rfl (lv_at hl 2 rfl) ?_
    refine lv_iload_n hx hb dX6_kindOf_12 rfl (lv_at hl 1 rfl) ?_
    refine lv_isub hx hb dX6_kindOf_13 ?_
    refine gx_top (y := nI (bh - fr)) (pk_sub (a := bh) (b := fr) (by omega)) ?_
    refine gx_goi (wc := [(a, .inl (cB, 4000, .inl f))]) (wr := []) (va_runS (As := [.ref a, .int (nI fr), .int (nI (bh - fr))]) (rest := []) ⟨hx, hb, hml, hown, hts⟩ (c_wordKind l D cI cB cZ K a f fr (bh - fr) (by omega) _) (va_cwS 3 hts gP_c_kindOf__c_wordKind rfl rfl rfl (by decide +kernel) ⟨Nat.le_of_ble_eq_true rfl, Nat.le_of_ble_eq_true rfl⟩) (ge_preS hE hS hA hK gN.nil hP hD [0] rfl rfl) rfl rfl hl.1 rfl (lv_room (Nat.le_of_ble_eq_true rfl)) dX6_kindOf_14 ⟨Nat.le_of_ble_eq_true rfl, Nat.le_of_ble_eq_true rfl⟩) hP hD hS hA [0] [] rfl rfl rfl (by decide) (fun r1 w1 H locs hp hP hD hS => ?_)
    obtain ⟨e_8, hq_9, h9, rfl⟩ := hp
    have h9 := h9.symm
    subst h9
    have hq_9 : e_8 < 16 ∨ e_8 = 22 := hq_9
    have hP : va_P D vwCl [(a, .inl (cB, 4000, .inl f))] H := hP
    have hD : va_D A [(a, .inl (cB, 4000, .inl f))] := hD
    exact gx_iret (w' := [(a, .inl (cB, 4000, .inl f))]) hx hb hr hlk hK hP hD hS (Nat.le_of_ble_eq_true rfl) (Nat.le_of_ble_eq_true rfl) dX6_kindOf_17 ⟨e_8, (by omega), (fun h => absurd h (by omega)), rfl, rfl⟩
