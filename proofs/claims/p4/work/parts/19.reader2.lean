theorem dX6_behindRun_0 : decode cX6_behindRun 0 = .ok (.aload_n 0, 1) := by decide +kernel
theorem dX6_behindRun_1 : decode cX6_behindRun 1 = .ok (.iload_n 2, 1) := by decide +kernel
theorem dX6_behindRun_10 : decode cX6_behindRun 10 = .ok (.invokestatic 78, 3) := by decide +kernel
theorem dX6_behindRun_13 : decode cX6_behindRun 13 = .ok (.istore 4, 2) := by decide +kernel
theorem dX6_behindRun_15 : decode cX6_behindRun 15 = .ok (.iload_n 2, 1) := by decide +kernel
theorem dX6_behindRun_16 : decode cX6_behindRun 16 = .ok (.iconst 1, 1) := by decide +kernel
theorem dX6_behindRun_17 : decode cX6_behindRun 17 = .ok (.iadd, 1) := by decide +kernel
theorem dX6_behindRun_18 : decode cX6_behindRun 18 = .ok (.istore 5, 2) := by decide +kernel
theorem dX6_behindRun_2 : decode cX6_behindRun 2 = .ok (.baload, 1) := by decide +kernel
theorem dX6_behindRun_20 : decode cX6_behindRun 20 = .ok (.iload 5, 2) := by decide +kernel
theorem dX6_behindRun_22 : decode cX6_behindRun 22 = .ok (.iload_n 1, 1) := by decide +kernel
theorem dX6_behindRun_23 : decode cX6_behindRun 23 = .ok (.if_icmp .ge 53, 3) := by decide +kernel
theorem dX6_behindRun_26 : decode cX6_behindRun 26 = .ok (.iload_n 3, 1) := by decide +kernel
theorem dX6_behindRun_27 : decode cX6_behindRun 27 = .ok (.ifCond .eq 13, 3) := by decide +kernel
theorem dX6_behindRun_3 : decode cX6_behindRun 3 = .ok (.invokestatic 74, 3) := by decide +kernel
theorem dX6_behindRun_30 : decode cX6_behindRun 30 = .ok (.aload_n 0, 1) := by decide +kernel
theorem dX6_behindRun_31 : decode cX6_behindRun 31 = .ok (.iload 5, 2) := by decide +kernel
theorem dX6_behindRun_33 : decode cX6_behindRun 33 = .ok (.baload, 1) := by decide +kernel
theorem dX6_behindRun_34 : decode cX6_behindRun 34 = .ok (.invokestatic 74, 3) := by decide +kernel
theorem dX6_behindRun_37 : decode cX6_behindRun 37 = .ok (.ifCond .ne 18, 3) := by decide +kernel
theorem dX6_behindRun_40 : decode cX6_behindRun 40 = .ok (.iload 4, 2) := by decide +kernel
theorem dX6_behindRun_42 : decode cX6_behindRun 42 = .ok (.ifCond .eq 17, 3) := by decide +kernel
theorem dX6_behindRun_45 : decode cX6_behindRun 45 = .ok (.aload_n 0, 1) := by decide +kernel
theorem dX6_behindRun_46 : decode cX6_behindRun 46 = .ok (.iload 5, 2) := by decide +kernel
theorem dX6_behindRun_48 : decode cX6_behindRun 48 = .ok (.baload, 1) := by decide +kernel
theorem dX6_behindRun_49 : decode cX6_behindRun 49 = .ok (.invokestatic 78, 3) := by decide +kernel
theorem dX6_behindRun_52 : decode cX6_behindRun 52 = .ok (.ifCond .eq 7, 3) := by decide +kernel
theorem dX6_behindRun_55 : decode cX6_behindRun 55 = .ok (.iconst 1, 1) := by decide +kernel
theorem dX6_behindRun_56 : decode cX6_behindRun 56 = .ok (.goto 4, 3) := by decide +kernel
theorem dX6_behindRun_59 : decode cX6_behindRun 59 = .ok (.iconst 0, 1) := by decide +kernel
theorem dX6_behindRun_6 : decode cX6_behindRun 6 = .ok (.istore_n 3, 1) := by decide +kernel
theorem dX6_behindRun_60 : decode cX6_behindRun 60 = .ok (.istore 6, 2) := by decide +kernel
theorem dX6_behindRun_62 : decode cX6_behindRun 62 = .ok (.iload 6, 2) := by decide +kernel
theorem dX6_behindRun_64 : decode cX6_behindRun 64 = .ok (.ifCond .ne 6, 3) := by decide +kernel
theorem dX6_behindRun_67 : decode cX6_behindRun 67 = .ok (.iload 5, 2) := by decide +kernel
theorem dX6_behindRun_69 : decode cX6_behindRun 69 = .ok (.ireturn, 1) := by decide +kernel
theorem dX6_behindRun_7 : decode cX6_behindRun 7 = .ok (.aload_n 0, 1) := by decide +kernel
theorem dX6_behindRun_70 : decode cX6_behindRun 70 = .ok (.iinc 5 1, 3) := by decide +kernel
theorem dX6_behindRun_73 : decode cX6_behindRun 73 = .ok (.goto (-53), 3) := by decide +kernel
theorem dX6_behindRun_76 : decode cX6_behindRun 76 = .ok (.iload_n 1, 1) := by decide +kernel
theorem dX6_behindRun_77 : decode cX6_behindRun 77 = .ok (.ireturn, 1) := by decide +kernel
theorem dX6_behindRun_8 : decode cX6_behindRun 8 = .ok (.iload_n 2, 1) := by decide +kernel
theorem dX6_behindRun_9 : decode cX6_behindRun 9 = .ok (.baload, 1) := by decide +kernel
theorem gy_run {P : Nat → Prop} {fr i : Nat} (h : ∀ j, fr ≤ j → j < i → P j) (hi : P i) : ∀ j, fr ≤ j → j < i + 1 → P j := by
  intro j h1 h2
  by_cases e : j = i
  · subst e; exact hi
  · exact h j h1 (by omega)
def wsP_c_behindRun : List Cond := .code yX6_behindRun cX6_behindRun 7 (some .int) :: ([.methodLink RX6 74 yX6_isLetter, .static yX6_isLetter, .initialized RX6, .code yX6_isLetter cX6_isLetter 1 (some .boolean), .methodLink RX6 78 yX6_isDigit, .static yX6_isDigit, .code yX6_isDigit cX6_isDigit 1 (some .boolean)])
set_option maxRecDepth 20000 in
theorem gP_c_behindRun__c_isLetter : GoodIn wsP_c_behindRun (va_wsS RX6 74 yX6_isLetter wsP_c_isLetter) := goodIn_r _ [1, 2, 3, 4] (by decide +kernel) (by decide +kernel)
set_option maxRecDepth 20000 in
theorem gP_c_behindRun__c_isDigit : GoodIn wsP_c_behindRun (va_wsS RX6 78 yX6_isDigit wsP_c_isDigit) := goodIn_r _ [5, 6, 3, 7] (by decide +kernel) (by decide +kernel)
set_option maxHeartbeats 4000000 in
set_option maxRecDepth 100000 in
theorem c_behindRun (l : Launch) (D : va_G) (cI cB cZ : ClassId) (a : Nat) (f : Nat → Int32) (sz : Nat) (fr : Nat) (hs : sz ≤ 4000) (hf : fr < sz) : gMi l yX6_behindRun wsP_c_behindRun ({ frames := 1, cells := 0, slots := 0, locals := 20 }) D cI cB cZ [] [.ref a, .int (nI sz), .int (nI fr)] [(a, .inl (cB, 4000, .inl f))] (fun r9 w9 => ∃ t : Nat, (fr < t) ∧ (t ≤ sz) ∧ ((¬ f fr < 48 ∧ ¬ 57 < f fr) → ∀ j, fr ≤ j → j < t → (¬ f j < 48 ∧ ¬ 57 < f j)) ∧ r9 = (nI t) ∧ w9 = [(a, .inl (cB, 4000, .inl f))]) := by
  refine gMi.of (cc := cX6_behindRun) (maxL := 7) (ret := (some .int)) (by decide) rfl (Nat.le_of_ble_eq_true rfl) (fun p e s m below meth c A ls hx hb hr hlk hml hts hown hin hA hP hK hD hS hN hl => ?_)
  have hown : s.vm.findClass RX6 = some m.cls := hown
  have hl : lv_has ls 7 [(0, .ref a), (1, .int (nI sz)), (2, .int (nI fr))] := hl
  refine lv_aload_n hx hb dX6_behindRun_0 rfl (lv_at hl 0 rfl) ?_
  refine lv_iload_n hx hb dX6_behindRun_1 rfl (lv_at hl 2 rfl) ?_
  refine gy_bld (i := fr) hx hb hK hP 0 rfl (by omega) (by omega) dX6_behindRun_2 ?_
  refine gx_goi (wc := []) (wr := [(a, .inl (cB, 4000, .inl f))]) (va_runS (As := [.int (f fr)]) (rest := []) ⟨hx, hb, hml, hown, hts⟩ (c_isLetter l D cI cB cZ (f fr) _) (va_cwS 1 hts gP_c_behindRun__c_isLetter rfl rfl rfl (by decide +kernel) ⟨Nat.le_of_ble_eq_true rfl, Nat.le_of_ble_eq_true rfl⟩) (gx_preS hK gN.nil hP hD [] rfl rfl) rfl rfl hl.1 rfl (lv_room (Nat.le_of_ble_eq_true rfl)) dX6_behindRun_3 ⟨Nat.le_of_ble_eq_true rfl, Nat.le_of_ble_eq_true rfl⟩) hP hD hS hA [] [0] rfl rfl rfl (by decide) (fun r1 w1 H locs hp hP hD hS => ?_)
  obtain ⟨h9, rfl⟩ := hp
  have h9 := h9.symm
  subst h9
  have hP : va_P D vwCl [(a, .inl (cB, 4000, .inl f))] H := hP
  have hD : va_D A [(a, .inl (cB, 4000, .inl f))] := hD
  refine lv_istore_n (lv' := [(3, .int (if ¬ (f fr) < 97 ∧ ¬ 122 < (f fr) then 1 else 0)), (0, .ref a), (1, .int (nI sz)), (2, .int (nI fr))]) hx hb dX6_behindRun_6 rfl hl (by decide) rfl (fun ls hl => ?_)
  refine lv_aload_n hx hb dX6_behindRun_7 rfl (lv_at hl 1 rfl) ?_
  refine lv_iload_n hx hb dX6_behindRun_8 rfl (lv_at hl 3 rfl) ?_
  refine gy_bld (i := fr) hx hb hK hP 0 rfl (by omega) (by omega) dX6_behindRun_9 ?_
  refine gx_goi (wc := []) (wr := [(a, .inl (cB, 4000, .inl f))]) (va_runS (As := [.int (f fr)]) (rest := []) ⟨hx, hb, hml, hown, hts⟩ (c_isDigit l D cI cB cZ (f fr) _) (va_cwS 1 hts gP_c_behindRun__c_isDigit rfl rfl rfl (by decide +kernel) ⟨Nat.le_of_ble_eq_true rfl, Nat.le_of_ble_eq_true rfl⟩) (gx_preS hK gN.nil hP hD [] rfl rfl) rfl rfl hl.1 rfl (lv_room (Nat.le_of_ble_eq_true rfl)) dX6_behindRun_10 ⟨Nat.le_of_ble_eq_true rfl, Nat.le_of_ble_eq_true rfl⟩) hP hD hS hA [] [0] rfl rfl rfl (by decide) (fun r1 w1 H locs hp hP hD hS => ?_)
  obtain ⟨h9, rfl⟩ := hp
  have h9 := h9.symm
  subst h9
  have hP : va_P D vwCl [(a, .inl (cB, 4000, .inl f))] H := hP
  have hD : va_D A [(a, .inl (cB, 4000, .inl f))] := hD
  refine lv_istore (lv' := [(4, .int (if ¬ (f fr) < 48 ∧ ¬ 57 < (f fr) then 1 else 0)), (3, .int (if ¬ (f fr) < 97 ∧ ¬ 122 < (f fr) then 1 else 0)), (0, .ref a), (1, .int (nI sz)), (2, .int (nI fr))]) hx hb dX6_behindRun_13 hl (by decide) rfl (fun ls hl => ?_)
  refine lv_iload_n hx hb dX6_behindRun_15 rfl (lv_at hl 4 rfl) ?_
  refine lv_iconst (v := 1) hx hb dX6_behindRun_16 (by decide) ?_
  refine lv_iadd hx hb dX6_behindRun_17 ?_
  refine gx_top (y := nI (fr + 1)) (nI_add fr 1) ?_
  refine lv_istore (lv' := [(5, .int (nI (fr + 1))), (4, .int (if ¬ (f fr) < 48 ∧ ¬ 57 < (f fr) then 1 else 0)), (3, .int (if ¬ (f fr) < 97 ∧ ¬ 122 < (f fr) then 1 else 0)), (0, .ref a), (1, .int (nI sz)), (2, .int (nI fr))]) hx hb dX6_behindRun_18 hl (by decide) rfl (fun ls hl => ?_)
  refine gy_loop0 (I := fun (x9 : Nat) H locs ls => (fr < x9) ∧ (x9 ≤ sz) ∧ ((¬ f fr < 48 ∧ ¬ 57 < f fr) → ∀ j, fr ≤ j → j < x9 → (¬ f j < 48 ∧ ¬ 57 < f j)) ∧ va_P D vwCl [(a, .inl (cB, 4000, .inl f))] H ∧ va_D A [(a, .inl (cB, 4000, .inl f))] ∧ va_S A s.heap H locs ∧ lv_has ls 7 [(5, .int (nI x9)), (4, .int (if ¬ (f fr) < 48 ∧ ¬ 57 < (f fr) then 1 else 0)), (3, .int (if ¬ (f fr) < 97 ∧ ¬ 122 < (f fr) then 1 else 0)), (0, .ref a), (1, .int (nI sz)), (2, .int (nI fr))]) (μ := fun (x9 : Nat) => sz - x9) (fun x9 H locs ls hI ih20 => ?_) (fr + 1) ⟨(by omega), (by omega), (fun h j h1 h2 => by obtain rfl : j = fr := (by omega); exact h), hP, hD, hS, lv_sub hl [0, 1, 2, 3, 4, 5] rfl⟩
  obtain ⟨i, rfl⟩ : ∃ z9, z9 = x9 := ⟨_, rfl⟩
  obtain ⟨hi20_0, hi20_1, hi20_2, hP, hD, hS, hl⟩ := hI
  have hi20_0 : fr < i := hi20_0
  have hi20_1 : i ≤ sz := hi20_1
  have hi20_2 : (¬ f fr < 48 ∧ ¬ 57 < f fr) → ∀ j, fr ≤ j → j < i → (¬ f j < 48 ∧ ¬ 57 < f j) := hi20_2
  have hP : va_P D vwCl [(a, .inl (cB, 4000, .inl f))] H := hP
  have hD : va_D A [(a, .inl (cB, 4000, .inl f))] := hD
  have hS : va_S A s.heap H locs := hS
  have hl : lv_has ls 7 [(5, .int (nI i)), (4, .int (if ¬ (f fr) < 48 ∧ ¬ 57 < (f fr) then 1 else 0)), (3, .int (if ¬ (f fr) < 97 ∧ ¬ 122 < (f fr) then 1 else 0)), (0, .ref a), (1, .int (nI sz)), (2, .int (nI fr))] := hl
  refine lv_iload hx hb dX6_behindRun_20 (lv_at hl 0 rfl) ?_
  refine lv_iload_n hx hb dX6_behindRun_22 rfl (lv_at hl 4 rfl) ?_
  refine gy_ge (a := i) (b := sz) (tgt := 76) hx hb (by omega) (by omega) dX6_behindRun_23 (by decide) (fun c_1 => ?_) (fun c_1 => ?_)
  · refine lv_iload_n hx hb dX6_behindRun_76 rfl (lv_at hl 4 rfl) ?_
    exact gx_iret (w' := [(a, .inl (cB, 4000, .inl f))]) hx hb hr hlk hK hP hD hS (Nat.le_of_ble_eq_true rfl) (Nat.le_of_ble_eq_true rfl) dX6_behindRun_77 ⟨sz, (by omega), (by omega), (fun h j h1 h2 => hi20_2 h j h1 (by omega)), rfl, rfl⟩
  · refine lv_iload_n hx hb dX6_behindRun_26 rfl (lv_at hl 2 rfl) ?_
    refine lv_if_eq (tgt := 40) hx hb dX6_behindRun_27 (by decide) (fun c_2 => ?_) (fun c_2 => ?_)
    · have c_2 : ¬ (¬ (f fr) < 97 ∧ ¬ 122 < (f fr)) := gy_b0 c_2
      refine lv_iload hx hb dX6_behindRun_40 (lv_at hl 1 rfl) ?_
      refine lv_if_eq (tgt := 59) hx hb dX6_behindRun_42 (by decide) (fun c_3 => ?_) (fun c_3 => ?_)
      · have c_3 : ¬ (¬ (f fr) < 48 ∧ ¬ 57 < (f fr)) := gy_b0 c_3
        refine lv_iconst (v := 0) hx hb dX6_behindRun_59 (by decide) ?_
        refine lv_istore (lv' := [(6, .int 0), (5, .int (nI i)), (4, .int (if ¬ (f fr) < 48 ∧ ¬ 57 < (f fr) then 1 else 0)), (3, .int (if ¬ (f fr) < 97 ∧ ¬ 122 < (f fr) then 1 else 0)), (0, .ref a), (1, .int (nI sz)), (2, .int (nI fr))]) hx hb dX6_behindRun_60 hl (by decide) rfl (fun ls hl => ?_)
        refine lv_iload hx hb dX6_behindRun_62 (lv_at hl 0 rfl) ?_
        refine lv_if_ne (tgt := 70) hx hb dX6_behindRun_64 (by decide) (fun c9 => absurd (by decide) c9) (fun _ => ?_)
        refine lv_iload hx hb dX6_behindRun_67 (lv_at hl 1 rfl) ?_
        exact gx_iret (w' := [(a, .inl (cB, 4000, .inl f))]) hx hb hr hlk hK hP hD hS (Nat.le_of_ble_eq_true rfl) (Nat.le_of_ble_eq_true rfl) dX6_behindRun_69 ⟨i, (by omega), (by omega), (fun h j h1 h2 => hi20_2 h j h1 (by omega)), rfl, rfl⟩
      · have c_3 : ¬ (f fr) < 48 ∧ ¬ 57 < (f fr) := gy_b1 c_3
        refine lv_aload_n hx hb dX6_behindRun_45 rfl (lv_at hl 3 rfl) ?_
        refine lv_iload hx hb dX6_behindRun_46 (lv_at hl 0 rfl) ?_
        refine gy_bld (i := i) hx hb hK hP 0 rfl (by omega) (by omega) dX6_behindRun_48 ?_
        refine gx_goi (wc := []) (wr := [(a, .inl (cB, 4000, .inl f))]) (va_runS (As := [.int (f i)]) (rest := []) ⟨hx, hb, hml, hown, hts⟩ (c_isDigit l D cI cB cZ (f i) _) (va_cwS 1 hts gP_c_behindRun__c_isDigit rfl rfl rfl (by decide +kernel) ⟨Nat.le_of_ble_eq_true rfl, Nat.le_of_ble_eq_true rfl⟩) (gx_preS hK gN.nil hP hD [] rfl rfl) rfl rfl hl.1 rfl (lv_room (Nat.le_of_ble_eq_true rfl)) dX6_behindRun_49 ⟨Nat.le_of_ble_eq_true rfl, Nat.le_of_ble_eq_true rfl⟩) hP hD hS hA [] [0] rfl rfl rfl (by decide) (fun r1 w1 H locs hp hP hD hS => ?_)
        obtain ⟨h9, rfl⟩ := hp
        have h9 := h9.symm
        subst h9
        have hP : va_P D vwCl [(a, .inl (cB, 4000, .inl f))] H := hP
        have hD : va_D A [(a, .inl (cB, 4000, .inl f))] := hD
        refine lv_if_eq (tgt := 59) hx hb dX6_behindRun_52 (by decide) (fun c_4 => ?_) (fun c_4 => ?_)
        · have c_4 : ¬ (¬ (f i) < 48 ∧ ¬ 57 < (f i)) := gy_b0 c_4
          refine lv_iconst (v := 0) hx hb dX6_behindRun_59 (by decide) ?_
          refine lv_istore (lv' := [(6, .int 0), (5, .int (nI i)), (4, .int (if ¬ (f fr) < 48 ∧ ¬ 57 < (f fr) then 1 else 0)), (3, .int (if ¬ (f fr) < 97 ∧ ¬ 122 < (f fr) then 1 else 0)), (0, .ref a), (1, .int (nI sz)), (2, .int (nI fr))]) hx hb dX6_behindRun_60 hl (by decide) rfl (fun ls hl => ?_)
          refine lv_iload hx hb dX6_behindRun_62 (lv_at hl 0 rfl) ?_
          refine lv_if_ne (tgt := 70) hx hb dX6_behindRun_64 (by decide) (fun c9 => absurd (by decide) c9) (fun _ => ?_)
          refine lv_iload hx hb dX6_behindRun_67 (lv_at hl 1 rfl) ?_
          exact gx_iret (w' := [(a, .inl (cB, 4000, .inl f))]) hx hb hr hlk hK hP hD hS (Nat.le_of_ble_eq_true rfl) (Nat.le_of_ble_eq_true rfl) dX6_behindRun_69 ⟨i, (by omega), (by omega), (fun h j h1 h2 => hi20_2 h j h1 (by omega)), rfl, rfl⟩
        · have c_4 : ¬ (f i) < 48 ∧ ¬ 57 < (f i) := gy_b1 c_4
          refine lv_iconst (v := 1) hx hb dX6_behindRun_55 (by decide) ?_
          refine lv_goto (tgt := 60) hx hb dX6_behindRun_56 (by decide) ?_
          refine lv_istore (lv' := [(6, .int 1), (5, .int (nI i)), (4, .int (if ¬ (f fr) < 48 ∧ ¬ 57 < (f fr) then 1 else 0)), (3, .int (if ¬ (f fr) < 97 ∧ ¬ 122 < (f fr) then 1 else 0)), (0, .ref a), (1, .int (nI sz)), (2, .int (nI fr))]) hx hb dX6_behindRun_60 hl (by decide) rfl (fun ls hl => ?_)
          refine lv_iload hx hb dX6_behindRun_62 (lv_at hl 0 rfl) ?_
          refine lv_if_ne (tgt := 70) hx hb dX6_behindRun_64 (by decide) (fun _ => ?_) (fun c9 => absurd c9 (by decide))
          refine lv_iinc (v := nI (i + 1)) (lv' := [(5, .int (nI (i + 1))), (6, .int 1), (4, .int (if ¬ (f fr) < 48 ∧ ¬ 57 < (f fr) then 1 else 0)), (3, .int (if ¬ (f fr) < 97 ∧ ¬ 122 < (f fr) then 1 else 0)), (0, .ref a), (1, .int (nI sz)), (2, .int (nI fr))]) hx hb dX6_behindRun_70 hl (k := 1) rfl (nI_add i 1) (by decide) rfl (fun ls hl => ?_)
          refine lv_goto (tgt := 20) hx hb dX6_behindRun_73 (by decide) ?_
          exact ih20 (i + 1) H locs ls ⟨(by omega), (by omega), (fun h => gy_run (P := fun j => ¬ f j < 48 ∧ ¬ 57 < f j) (hi20_2 h) (by first | exact c_4 | exact absurd (Int32.le_trans (Int32.not_lt.mp (c_3).1) (Int32.not_lt.mp h.2)) (by decide))), hP, hD, hS, lv_sub hl [0, 2, 3, 4, 5, 6] rfl⟩ (by show sz - (i + 1) < sz - i; omega)
    · have c_2 : ¬ (f fr) < 97 ∧ ¬ 122 < (f fr) := gy_b1 c_2
      refine lv_aload_n hx hb dX6_behindRun_30 rfl (lv_at hl 3 rfl) ?_
      refine lv_iload hx hb dX6_behindRun_31 (lv_at hl 0 rfl) ?_
      refine gy_bld (i := i) hx hb hK hP 0 rfl (by omega) (by omega) dX6_behindRun_33 ?_
      refine gx_goi (wc := []) (wr := [(a, .inl (cB, 4000, .inl f))]) (va_runS (As := [.int (f i)]) (rest := []) ⟨hx, hb, hml, hown, hts⟩ (c_isLetter l D cI cB cZ (f i) _) (va_cwS 1 hts gP_c_behindRun__c_isLetter rfl rfl rfl (by decide +kernel) ⟨Nat.le_of_ble_eq_true rfl, Nat.le_of_ble_eq_true rfl⟩) (gx_preS hK gN.nil hP hD [] rfl rfl) rfl rfl hl.1 rfl (lv_room (Nat.le_of_ble_eq_true rfl)) dX6_behindRun_34 ⟨Nat.le_of_ble_eq_true rfl, Nat.le_of_ble_eq_true rfl⟩) hP hD hS hA [] [0] rfl rfl rfl (by decide) (fun r1 w1 H locs hp hP hD hS => ?_)
      obtain ⟨h9, rfl⟩ := hp
      have h9 := h9.symm
      subst h9
      have hP : va_P D vwCl [(a, .inl (cB, 4000, .inl f))] H := hP
      have hD : va_D A [(a, .inl (cB, 4000, .inl f))] := hD
      refine lv_if_ne (tgt := 55) hx hb dX6_behindRun_37 (by decide) (fun c_5 => ?_) (fun c_5 => ?_)
      · have c_5 : ¬ (f i) < 97 ∧ ¬ 122 < (f i) := gy_b1 c_5
        refine lv_iconst (v := 1) hx hb dX6_behindRun_55 (by decide) ?_
        refine lv_goto (tgt := 60) hx hb dX6_behindRun_56 (by decide) ?_
        refine lv_istore (lv' := [(6, .int 1), (5, .int (nI i)), (4, .int (if ¬ (f fr) < 48 ∧ ¬ 57 < (f fr) then 1 else 0)), (3, .int (if ¬ (f fr) < 97 ∧ ¬ 122 < (f fr) then 1 else 0)), (0, .ref a), (1, .int (nI sz)), (2, .int (nI fr))]) hx hb dX6_behindRun_60 hl (by decide) rfl (fun ls hl => ?_)
        refine lv_iload hx hb dX6_behindRun_62 (lv_at hl 0 rfl) ?_
        refine lv_if_ne (tgt := 70) hx hb dX6_behindRun_64 (by decide) (fun _ => ?_) (fun c9 => absurd c9 (by decide))
        refine lv_iinc (v := nI (i + 1)) (lv' := [(5, .int (nI (i + 1))), (6, .int 1), (4, .int (if ¬ (f fr) < 48 ∧ ¬ 57 < (f fr) then 1 else 0)), (3, .int (if ¬ (f fr) < 97 ∧ ¬ 122 < (f fr) then 1 else 0)), (0, .ref a), (1, .int (nI sz)), (2, .int (nI fr))]) hx hb dX6_behindRun_70 hl (k := 1) rfl (nI_add i 1) (by decide) rfl (fun ls hl => ?_)
        refine lv_goto (tgt := 20) hx hb dX6_behindRun_73 (by decide) ?_
        exact ih20 (i + 1) H locs ls ⟨(by omega), (by omega), (fun h => gy_run (P := fun j => ¬ f j < 48 ∧ ¬ 57 < f j) (hi20_2 h) (by first | exact c_5 | exact absurd (Int32.le_trans (Int32.not_lt.mp (c_2).1) (Int32.not_lt.mp h.2)) (by decide))), hP, hD, hS, lv_sub hl [0, 2, 3, 4, 5, 6] rfl⟩ (by show sz - (i + 1) < sz - i; omega)
      · have c_5 : ¬ (¬ (f i) < 97 ∧ ¬ 122 < (f i)) := gy_b0 c_5
        refine lv_iload hx hb dX6_behindRun_40 (lv_at hl 1 rfl) ?_
        refine lv_if_eq (tgt := 59) hx hb dX6_behindRun_42 (by decide) (fun c_6 => ?_) (fun c_6 => ?_)
        · have c_6 : ¬ (¬ (f fr) < 48 ∧ ¬ 57 < (f fr)) := gy_b0 c_6
          refine lv_iconst (v := 0) hx hb dX6_behindRun_59 (by decide) ?_
          refine lv_istore (lv' := [(6, .int 0), (5, .int (nI i)), (4, .int (if ¬ (f fr) < 48 ∧ ¬ 57 < (f fr) then 1 else 0)), (3, .int (if ¬ (f fr) < 97 ∧ ¬ 122 < (f fr) then 1 else 0)), (0, .ref a), (1, .int (nI sz)), (2, .int (nI fr))]) hx hb dX6_behindRun_60 hl (by decide) rfl (fun ls hl => ?_)
          refine lv_iload hx hb dX6_behindRun_62 (lv_at hl 0 rfl) ?_
          refine lv_if_ne (tgt := 70) hx hb dX6_behindRun_64 (by decide) (fun c9 => absurd (by decide) c9) (fun _ => ?_)
          refine lv_iload hx hb dX6_behindRun_67 (lv_at hl 1 rfl) ?_
          exact gx_iret (w' := [(a, .inl (cB, 4000, .inl f))]) hx hb hr hlk hK hP hD hS (Nat.le_of_ble_eq_true rfl) (Nat.le_of_ble_eq_true rfl) dX6_behindRun_69 ⟨i, (by omega), (by omega), (fun h j h1 h2 => hi20_2 h j h1 (by omega)), rfl, rfl⟩
        · have c_6 : ¬ (f fr) < 48 ∧ ¬ 57 < (f fr) := gy_b1 c_6
          refine lv_aload_n hx hb dX6_behindRun_45 rfl (lv_at hl 3 rfl) ?_
          refine lv_iload hx hb dX6_behindRun_46 (lv_at hl 0 rfl) ?_
          refine gy_bld (i := i) hx hb hK hP 0 rfl (by omega) (by omega) dX6_behindRun_48 ?_
          refine gx_goi (wc := []) (wr := [(a, .inl (cB, 4000, .inl f))]) (va_runS (As := [.int (f i)]) (rest := []) ⟨hx, hb, hml, hown, hts⟩ (c_isDigit l D cI cB cZ (f i) _) (va_cwS 1 hts gP_c_behindRun__c_isDigit rfl rfl rfl (by decide +kernel) ⟨Nat.le_of_ble_eq_true rfl, Nat.le_of_ble_eq_true rfl⟩) (gx_preS hK gN.nil hP hD [] rfl rfl) rfl rfl hl.1 rfl (lv_room (Nat.le_of_ble_eq_true rfl)) dX6_behindRun_49 ⟨Nat.le_of_ble_eq_true rfl, Nat.le_of_ble_eq_true rfl⟩) hP hD hS hA [] [0] rfl rfl rfl (by decide) (fun r1 w1 H locs hp hP hD hS => ?_)
          obtain ⟨h9, rfl⟩ := hp
          have h9 := h9.symm
          subst h9
          have hP : va_P D vwCl [(a, .inl (cB, 4000, .inl f))] H := hP
          have hD : va_D A [(a, .inl (cB, 4000, .inl f))] := hD
          refine lv_if_eq (tgt := 59) hx hb dX6_behindRun_52 (by decide) (fun c_7 => ?_) (fun c_7 => ?_)
          · have c_7 : ¬ (¬ (f i) < 48 ∧ ¬ 57 < (f i)) := gy_b0 c_7
            refine lv_iconst (v := 0) hx hb dX6_behindRun_59 (by decide) ?_
            refine lv_istore (lv' := [(6, .int 0), (5, .int (nI i)), (4, .int (if ¬ (f fr) < 48 ∧ ¬ 57 < (f fr) then 1 else 0)), (3, .int (if ¬ (f fr) < 97 ∧ ¬ 122 < (f fr) then 1 else 0)), (0, .ref a), (1, .int (nI sz)), (2, .int (nI fr))]) hx hb dX6_behindRun_60 hl (by decide) rfl (fun ls hl => ?_)
            refine lv_iload hx hb dX6_behindRun_62 (lv_at hl 0 rfl) ?_
            refine lv_if_ne (tgt := 70) hx hb dX6_behindRun_64 (by decide) (fun c9 => absurd (by decide) c9) (fun _ => ?_)
            refine lv_iload hx hb dX6_behindRun_67 (lv_at hl 1 rfl) ?_
            exact gx_iret (w' := [(a, .inl (cB, 4000, .inl f))]) hx hb hr hlk hK hP hD hS (Nat.le_of_ble_eq_true rfl) (Nat.le_of_ble_eq_true rfl) dX6_behindRun_69 ⟨i, (by omega), (by omega), (fun h j h1 h2 => hi20_2 h j h1 (by omega)), rfl, rfl⟩
          · have c_7 : ¬ (f i) < 48 ∧ ¬ 57 < (f i) := gy_b1 c_7
            refine lv_iconst (v := 1) hx hb dX6_behindRun_55 (by decide) ?_
            refine lv_goto (tgt := 60) hx hb dX6_behindRun_56 (by decide) ?_
            refine lv_istore (lv' := [(6, .int 1), (5, .int (nI i)), (4, .int (if ¬ (f fr) < 48 ∧ ¬ 57 < (f fr) then 1 else 0)), (3, .int (if ¬ (f fr) < 97 ∧ ¬ 122 < (f fr) then 1 else 0)), (0, .ref a), (1, .int (nI sz)), (2, .int (nI fr))]) hx hb dX6_behindRun_60 hl (by decide) rfl (fun ls hl => ?_)
            refine lv_iload hx hb dX6_behindRun_62 (lv_at hl 0 rfl) ?_
            refine lv_if_ne (tgt := 70) hx hb dX6_behindRun_64 (by decide) (fun _ => ?_) (fun c9 => absurd c9 (by decide))
            refine lv_iinc (v := nI (i + 1)) (lv' := [(5, .int (nI (i + 1))), (6, .int 1), (4, .int (if ¬ (f fr) < 48 ∧ ¬ 57 < (f fr) then 1 else 0)), (3, .int (if ¬ (f fr) < 97 ∧ ¬ 122 < (f fr) then 1 else 0)), (0, .ref a), (1, .int (nI sz)), (2, .int (nI fr))]) hx hb dX6_behindRun_70 hl (k := 1) rfl (nI_add i 1) (by decide) rfl (fun ls hl => ?_)
            refine lv_goto (tgt := 20) hx hb dX6_behindRun_73 (by decide) ?_
            exact ih20 (i + 1) H locs ls ⟨(by omega), (by omega), (fun h => gy_run (P := fun j => ¬ f j < 48 ∧ ¬ 57 < f j) (hi20_2 h) (by first | exact c_7 | exact absurd (Int32.le_trans (Int32.not_lt.mp (c_6).1) (Int32.not_lt.mp h.2)) (by decide))), hP, hD, hS, lv_sub hl [0, 2, 3, 4, 5, 6] rfl⟩ (by show sz - (i + 1) < sz - i; omega)
