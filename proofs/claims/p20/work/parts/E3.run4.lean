
def wsP_x_blanks : List Cond := .code yX6_behindBlanks cX6_behindBlanks 5 (some .int) :: (([]) ++ [])
theorem gW_x_blanks : wsP_x_blanks.all goodWord = true := by unfold wsP_x_blanks; exact gw_mk (by decide +kernel) rfl
set_option maxHeartbeats 4000000 in
set_option maxRecDepth 100000 in
theorem x_blanks (l : Launch) (D : va_G) (cI cB cZ : ClassId) (a : Nat) (f : Nat → Int32) (sz : Nat) (fr : Nat) (hs : sz ≤ 4000) (hf : fr ≤ sz) : gMi l yX6_behindBlanks wsP_x_blanks ({ frames := 0, cells := 0, slots := 0, locals := 0 }) D cI cB cZ [] [.ref a, .int (nI sz), .int (nI fr)] [(a, .inl (cB, 4000, .inl f))] (fun r9 w9 => ∃ t : Nat, (fr ≤ t) ∧ (t ≤ sz) ∧ (gBb f sz fr t) ∧ r9 = (nI t) ∧ w9 = [(a, .inl (cB, 4000, .inl f))]) := by
  refine gMi.of (cc := cX6_behindBlanks) (maxL := 5) (ret := (some .int)) (by decide) rfl (Nat.le_of_ble_eq_true rfl) (fun p e s m below meth c A ls hx hb hr hlk hml hts hown hin hA hP hK hD hS hN hl => ?_)
  have hown : s.vm.findClass RX6 = some m.cls := hown
  have hl : lv_has ls 5 [(0, .ref a), (1, .int (nI sz)), (2, .int (nI fr))] := hl
  refine lv_iload_n hx hb dX6_behindBlanks_0 rfl (lv_at hl 2 rfl) ?_
  refine lv_istore_n (lv' := [(3, .int (nI fr)), (0, .ref a), (1, .int (nI sz)), (2, .int (nI fr))]) hx hb dX6_behindBlanks_1 rfl hl (by decide) rfl (fun ls hl => ?_)
  refine gy_loop0 (I := fun (x9 : Nat) H locs ls => (fr ≤ x9) ∧ (x9 ≤ sz) ∧ (∀ j, fr ≤ j → j < x9 → gBl (f j)) ∧ va_P D vwCl [(a, .inl (cB, 4000, .inl f))] H ∧ va_D A [(a, .inl (cB, 4000, .inl f))] ∧ va_S A s.heap H locs ∧ lv_has ls 5 [(3, .int (nI x9)), (0, .ref a), (1, .int (nI sz)), (2, .int (nI fr))]) (μ := fun (x9 : Nat) => sz - x9) (fun x9 H locs ls hI ih2 => ?_) fr ⟨(by show fr ≤ fr; omega), (by show fr ≤ sz; omega), (fun j a b => absurd a (by omega)), hP, hD, hS, lv_sub hl [0, 1, 2, 3] rfl⟩
  obtain ⟨i, rfl⟩ : ∃ z9, z9 = x9 := ⟨_, rfl⟩
  obtain ⟨hi2_0, hi2_1, hi2_2, hP, hD, hS, hl⟩ := hI
  have hi2_0 : fr ≤ i := hi2_0
  have hi2_1 : i ≤ sz := hi2_1
  have hi2_2 : ∀ j, fr ≤ j → j < i → gBl (f j) := hi2_2
  have hP : va_P D vwCl [(a, .inl (cB, 4000, .inl f))] H := hP
  have hD : va_D A [(a, .inl (cB, 4000, .inl f))] := hD
  have hS : va_S A s.heap H locs := hS
  have hl : lv_has ls 5 [(3, .int (nI i)), (0, .ref a), (1, .int (nI sz)), (2, .int (nI fr))] := hl
  refine lv_iload_n hx hb dX6_behindBlanks_2 rfl (lv_at hl 0 rfl) ?_
  refine lv_iload_n hx hb dX6_behindBlanks_3 rfl (lv_at hl 2 rfl) ?_
  refine gy_ge (a := i) (b := sz) (tgt := 48) hx hb (by omega) (by omega) dX6_behindBlanks_4 (by decide) (fun c_1 => ?_) (fun c_1 => ?_)
  · refine lv_iload_n hx hb dX6_behindBlanks_48 rfl (lv_at hl 2 rfl) ?_
    exact gx_iret (w' := [(a, .inl (cB, 4000, .inl f))]) hx hb hr hlk hK hP hD hS (Nat.le_of_ble_eq_true rfl) (Nat.le_of_ble_eq_true rfl) dX6_behindBlanks_49 ⟨sz, (by omega), (by omega), ⟨by omega, Nat.le_refl _, fun j a b => hi2_2 j a (by omega), fun h => absurd h (Nat.lt_irrefl _)⟩, rfl, rfl⟩
  · refine lv_aload_n hx hb dX6_behindBlanks_7 rfl (lv_at hl 1 rfl) ?_
    refine lv_iload_n hx hb dX6_behindBlanks_8 rfl (lv_at hl 0 rfl) ?_
    refine gy_bld (i := i) hx hb hK hP 0 rfl (by omega) (by omega) dX6_behindBlanks_9 ?_
    refine lv_istore (lv' := [(4, .int (f i)), (3, .int (nI i)), (0, .ref a), (1, .int (nI sz)), (2, .int (nI fr))]) hx hb dX6_behindBlanks_10 hl (by decide) rfl (fun ls hl => ?_)
    refine lv_iload hx hb dX6_behindBlanks_12 (lv_at hl 0 rfl) ?_
    refine lv_bipush (v := 9) hx hb dX6_behindBlanks_14 (by decide) ?_
    refine lv_icmp_eq (tgt := 42) hx hb dX6_behindBlanks_16 (by decide) (fun c_2 => ?_) (fun c_2 => ?_)
    · refine lv_iinc (v := nI (i + 1)) (lv' := [(3, .int (nI (i + 1))), (4, .int (f i)), (0, .ref a), (1, .int (nI sz)), (2, .int (nI fr))]) hx hb dX6_behindBlanks_42 hl (k := 1) rfl (nI_add i 1) (by decide) rfl (fun ls hl => ?_)
      refine lv_goto (tgt := 2) hx hb dX6_behindBlanks_45 (by decide) ?_
      exact ih2 (i + 1) H locs ls ⟨(by show fr ≤ (i + 1); omega), (by show (i + 1) ≤ sz; omega), (gy_run (P := fun j => gBl (f j)) hi2_2 (by first | exact Or.inl c_2 | exact Or.inr (Or.inl c_2) | exact Or.inr (Or.inr (Or.inl c_2)) | exact Or.inr (Or.inr (Or.inr c_2)))), hP, hD, hS, lv_sub hl [0, 2, 3, 4] rfl⟩ (by show sz - (i + 1) < sz - i; omega)
    · refine lv_iload hx hb dX6_behindBlanks_19 (lv_at hl 0 rfl) ?_
      refine lv_bipush (v := 10) hx hb dX6_behindBlanks_21 (by decide) ?_
      refine lv_icmp_eq (tgt := 42) hx hb dX6_behindBlanks_23 (by decide) (fun c_3 => ?_) (fun c_3 => ?_)
      · refine lv_iinc (v := nI (i + 1)) (lv' := [(3, .int (nI (i + 1))), (4, .int (f i)), (0, .ref a), (1, .int (nI sz)), (2, .int (nI fr))]) hx hb dX6_behindBlanks_42 hl (k := 1) rfl (nI_add i 1) (by decide) rfl (fun ls hl => ?_)
        refine lv_goto (tgt := 2) hx hb dX6_behindBlanks_45 (by decide) ?_
        exact ih2 (i + 1) H locs ls ⟨(by show fr ≤ (i + 1); omega), (by show (i + 1) ≤ sz; omega), (gy_run (P := fun j => gBl (f j)) hi2_2 (by first | exact Or.inl c_3 | exact Or.inr (Or.inl c_3) | exact Or.inr (Or.inr (Or.inl c_3)) | exact Or.inr (Or.inr (Or.inr c_3)))), hP, hD, hS, lv_sub hl [0, 2, 3, 4] rfl⟩ (by show sz - (i + 1) < sz - i; omega)
      · refine lv_iload hx hb dX6_behindBlanks_26 (lv_at hl 0 rfl) ?_
        refine lv_bipush (v := 13) hx hb dX6_behindBlanks_28 (by decide) ?_
        refine lv_icmp_eq (tgt := 42) hx hb dX6_behindBlanks_30 (by decide) (fun c_4 => ?_) (fun c_4 => ?_)
        · refine lv_iinc (v := nI (i + 1)) (lv' := [(3, .int (nI (i + 1))), (4, .int (f i)), (0, .ref a), (1, .int (nI sz)), (2, .int (nI fr))]) hx hb dX6_behindBlanks_42 hl (k := 1) rfl (nI_add i 1) (by decide) rfl (fun ls hl => ?_)
          refine lv_goto (tgt := 2) hx hb dX6_behindBlanks_45 (by decide) ?_
          exact ih2 (i + 1) H locs ls ⟨(by show fr ≤ (i + 1); omega), (by show (i + 1) ≤ sz; omega), (gy_run (P := fun j => gBl (f j)) hi2_2 (by first | exact Or.inl c_4 | exact Or.inr (Or.inl c_4) | exact Or.inr (Or.inr (Or.inl c_4)) | exact Or.inr (Or.inr (Or.inr c_4)))), hP, hD, hS, lv_sub hl [0, 2, 3, 4] rfl⟩ (by show sz - (i + 1) < sz - i; omega)
        · refine lv_iload hx hb dX6_behindBlanks_33 (lv_at hl 0 rfl) ?_
          refine lv_bipush (v := 32) hx hb dX6_behindBlanks_35 (by decide) ?_
          refine lv_icmp_eq (tgt := 42) hx hb dX6_behindBlanks_37 (by decide) (fun c_5 => ?_) (fun c_5 => ?_)
          · refine lv_iinc (v := nI (i + 1)) (lv' := [(3, .int (nI (i + 1))), (4, .int (f i)), (0, .ref a), (1, .int (nI sz)), (2, .int (nI fr))]) hx hb dX6_behindBlanks_42 hl (k := 1) rfl (nI_add i 1) (by decide) rfl (fun ls hl => ?_)
            refine lv_goto (tgt := 2) hx hb dX6_behindBlanks_45 (by decide) ?_
            exact ih2 (i + 1) H locs ls ⟨(by show fr ≤ (i + 1); omega), (by show (i + 1) ≤ sz; omega), (gy_run (P := fun j => gBl (f j)) hi2_2 (by first | exact Or.inl c_5 | exact Or.inr (Or.inl c_5) | exact Or.inr (Or.inr (Or.inl c_5)) | exact Or.inr (Or.inr (Or.inr c_5)))), hP, hD, hS, lv_sub hl [0, 2, 3, 4] rfl⟩ (by show sz - (i + 1) < sz - i; omega)
          · refine lv_iload_n hx hb dX6_behindBlanks_40 rfl (lv_at hl 1 rfl) ?_
            exact gx_iret (w' := [(a, .inl (cB, 4000, .inl f))]) hx hb hr hlk hK hP hD hS (Nat.le_of_ble_eq_true rfl) (Nat.le_of_ble_eq_true rfl) dX6_behindBlanks_41 ⟨i, (by omega), (by omega), ⟨hi2_0, hi2_1, hi2_2, fun _ h => h.elim c_2 (fun h => h.elim c_3 (fun h => h.elim c_4 c_5))⟩, rfl, rfl⟩
def wsP_x_run : List Cond := .code yX6_behindRun cX6_behindRun 7 (some .int) :: (([.methodLink RX6 74 yX6_isLetter, .static yX6_isLetter, .initialized yX6_isLetter.cls, .methodLink RX6 78 yX6_isDigit, .static yX6_isDigit, .initialized yX6_isDigit.cls]) ++ (wsP_c_isLetter ++ (wsP_c_isDigit ++ [])))
theorem gW_x_run : wsP_x_run.all goodWord = true := by unfold wsP_x_run; exact gw_mk (by decide +kernel) (gw_app gW_c_isLetter (gw_app gW_c_isDigit rfl))
set_option maxRecDepth 20000 in
theorem gP_x_run__c_isLetter : GoodIn wsP_x_run (va_wsS RX6 74 yX6_isLetter wsP_c_isLetter) := gw_in (pre := [.methodLink RX6 74 yX6_isLetter, .static yX6_isLetter, .initialized yX6_isLetter.cls]) (by decide +kernel) (fun _ h => List.mem_cons_of_mem _ (List.mem_append_right _ (List.mem_append_left _ h))) gW_c_isLetter
set_option maxRecDepth 20000 in
theorem gP_x_run__c_isDigit : GoodIn wsP_x_run (va_wsS RX6 78 yX6_isDigit wsP_c_isDigit) := gw_in (pre := [.methodLink RX6 78 yX6_isDigit, .static yX6_isDigit, .initialized yX6_isDigit.cls]) (by decide +kernel) (fun _ h => List.mem_cons_of_mem _ (List.mem_append_right _ (List.mem_append_right _ (List.mem_append_left _ h)))) gW_c_isDigit
set_option maxHeartbeats 4000000 in
set_option maxRecDepth 100000 in
theorem x_run (l : Launch) (D : va_G) (cI cB cZ : ClassId) (a : Nat) (f : Nat → Int32) (sz : Nat) (fr : Nat) (hs : sz ≤ 4000) (hf : fr < sz) : gMi l yX6_behindRun wsP_x_run ({ frames := 1, cells := 0, slots := 0, locals := 20 }) D cI cB cZ [] [.ref a, .int (nI sz), .int (nI fr)] [(a, .inl (cB, 4000, .inl f))] (fun r9 w9 => ∃ t : Nat, (fr < t) ∧ (t ≤ sz) ∧ ((¬ f fr < 48 ∧ ¬ 57 < f fr) → ∀ j, fr ≤ j → j < t → (¬ f j < 48 ∧ ¬ 57 < f j)) ∧ (gBr f sz fr t) ∧ r9 = (nI t) ∧ w9 = [(a, .inl (cB, 4000, .inl f))]) := by
  refine gMi.of (cc := cX6_behindRun) (maxL := 7) (ret := (some .int)) (by decide) rfl (Nat.le_of_ble_eq_true rfl) (fun p e s m below meth c A ls hx hb hr hlk hml hts hown hin hA hP hK hD hS hN hl => ?_)
  have hown : s.vm.findClass RX6 = some m.cls := hown
  have hl : lv_has ls 7 [(0, .ref a), (1, .int (nI sz)), (2, .int (nI fr))] := hl
  refine lv_aload_n hx hb dX6_behindRun_0 rfl (lv_at hl 0 rfl) ?_
  refine lv_iload_n hx hb dX6_behindRun_1 rfl (lv_at hl 2 rfl) ?_
  refine gy_bld (i := fr) hx hb hK hP 0 rfl (by omega) (by omega) dX6_behindRun_2 ?_
  refine gx_goi (wc := []) (wr := [(a, .inl (cB, 4000, .inl f))]) (va_runS (As := [.int (f fr)]) (rest := []) ⟨hx, hb, hml, hown, hts⟩ (c_isLetter l D cI cB cZ (f fr) _) (va_cwS 1 hts gP_x_run__c_isLetter rfl rfl rfl (by decide +kernel) ⟨Nat.le_of_ble_eq_true rfl, Nat.le_of_ble_eq_true rfl⟩) (gx_preS hK gN.nil hP hD [] rfl rfl) rfl rfl hl.1 rfl (lv_room (Nat.le_of_ble_eq_true rfl)) dX6_behindRun_3 ⟨Nat.le_of_ble_eq_true rfl, Nat.le_of_ble_eq_true rfl⟩) hP hD hS hA [] [0] rfl rfl rfl (by decide) (fun r1 w1 H locs hp hP hD hS => ?_)
  obtain ⟨h9, rfl⟩ := hp
  have h9 := h9.symm
  subst h9
  refine lv_istore_n (lv' := [(3, .int (if ¬ (f fr) < 97 ∧ ¬ 122 < (f fr) then 1 else 0)), (0, .ref a), (1, .int (nI sz)), (2, .int (nI fr))]) hx hb dX6_behindRun_6 rfl hl (by decide) rfl (fun ls hl => ?_)
  refine lv_aload_n hx hb dX6_behindRun_7 rfl (lv_at hl 1 rfl) ?_
  refine lv_iload_n hx hb dX6_behindRun_8 rfl (lv_at hl 3 rfl) ?_
  refine gy_bld (i := fr) hx hb hK hP 0 rfl (by omega) (by omega) dX6_behindRun_9 ?_
  refine gx_goi (wc := []) (wr := [(a, .inl (cB, 4000, .inl f))]) (va_runS (As := [.int (f fr)]) (rest := []) ⟨hx, hb, hml, hown, hts⟩ (c_isDigit l D cI cB cZ (f fr) _) (va_cwS 1 hts gP_x_run__c_isDigit rfl rfl rfl (by decide +kernel) ⟨Nat.le_of_ble_eq_true rfl, Nat.le_of_ble_eq_true rfl⟩) (gx_preS hK gN.nil hP hD [] rfl rfl) rfl rfl hl.1 rfl (lv_room (Nat.le_of_ble_eq_true rfl)) dX6_behindRun_10 ⟨Nat.le_of_ble_eq_true rfl, Nat.le_of_ble_eq_true rfl⟩) hP hD hS hA [] [0] rfl rfl rfl (by decide) (fun r1 w1 H locs hp hP hD hS => ?_)
  obtain ⟨h9, rfl⟩ := hp
  have h9 := h9.symm
  subst h9
  refine lv_istore (lv' := [(4, .int (if ¬ (f fr) < 48 ∧ ¬ 57 < (f fr) then 1 else 0)), (3, .int (if ¬ (f fr) < 97 ∧ ¬ 122 < (f fr) then 1 else 0)), (0, .ref a), (1, .int (nI sz)), (2, .int (nI fr))]) hx hb dX6_behindRun_13 hl (by decide) rfl (fun ls hl => ?_)
  refine lv_iload_n hx hb dX6_behindRun_15 rfl (lv_at hl 4 rfl) ?_
  refine lv_iconst (v := 1) hx hb dX6_behindRun_16 (by decide) ?_
  refine lv_iadd hx hb dX6_behindRun_17 ?_
  refine gx_top (y := nI (fr + 1)) (nI_add fr 1) ?_
  refine lv_istore (lv' := [(5, .int (nI (fr + 1))), (4, .int (if ¬ (f fr) < 48 ∧ ¬ 57 < (f fr) then 1 else 0)), (3, .int (if ¬ (f fr) < 97 ∧ ¬ 122 < (f fr) then 1 else 0)), (0, .ref a), (1, .int (nI sz)), (2, .int (nI fr))]) hx hb dX6_behindRun_18 hl (by decide) rfl (fun ls hl => ?_)
  refine gy_loop0 (I := fun (x9 : Nat) H locs ls => (fr < x9) ∧ (x9 ≤ sz) ∧ (gLe (f fr) → ∀ j, fr ≤ j → j < x9 → gLe (f j)) ∧ (gDi (f fr) → ∀ j, fr ≤ j → j < x9 → gDi (f j)) ∧ (¬ gLe (f fr) → ¬ gDi (f fr) → x9 = fr + 1) ∧ va_P D vwCl [(a, .inl (cB, 4000, .inl f))] H ∧ va_D A [(a, .inl (cB, 4000, .inl f))] ∧ va_S A s.heap H locs ∧ lv_has ls 7 [(5, .int (nI x9)), (4, .int (if ¬ (f fr) < 48 ∧ ¬ 57 < (f fr) then 1 else 0)), (3, .int (if ¬ (f fr) < 97 ∧ ¬ 122 < (f fr) then 1 else 0)), (0, .ref a), (1, .int (nI sz)), (2, .int (nI fr))]) (μ := fun (x9 : Nat) => sz - x9) (fun x9 H locs ls hI ih20 => ?_) (fr + 1) ⟨(by show fr < (fr + 1); omega), (by show (fr + 1) ≤ sz; omega), (fun h j a b => by obtain rfl : j = fr := (by omega); exact h), (fun h j a b => by obtain rfl : j = fr := (by omega); exact h), (fun _ _ => rfl), hP, hD, hS, lv_sub hl [0, 1, 2, 3, 4, 5] rfl⟩
  obtain ⟨i, rfl⟩ : ∃ z9, z9 = x9 := ⟨_, rfl⟩
  obtain ⟨hi20_0, hi20_1, hi20_2, hi20_3, hi20_4, hP, hD, hS, hl⟩ := hI
  have hi20_0 : fr < i := hi20_0
  have hi20_1 : i ≤ sz := hi20_1
  have hi20_2 : gLe (f fr) → ∀ j, fr ≤ j → j < i → gLe (f j) := hi20_2
  have hi20_3 : gDi (f fr) → ∀ j, fr ≤ j → j < i → gDi (f j) := hi20_3
  have hi20_4 : ¬ gLe (f fr) → ¬ gDi (f fr) → i = fr + 1 := hi20_4
  have hP : va_P D vwCl [(a, .inl (cB, 4000, .inl f))] H := hP
  have hD : va_D A [(a, .inl (cB, 4000, .inl f))] := hD
  have hS : va_S A s.heap H locs := hS
  have hl : lv_has ls 7 [(5, .int (nI i)), (4, .int (if ¬ (f fr) < 48 ∧ ¬ 57 < (f fr) then 1 else 0)), (3, .int (if ¬ (f fr) < 97 ∧ ¬ 122 < (f fr) then 1 else 0)), (0, .ref a), (1, .int (nI sz)), (2, .int (nI fr))] := hl
  refine lv_iload hx hb dX6_behindRun_20 (lv_at hl 0 rfl) ?_
  refine lv_iload_n hx hb dX6_behindRun_22 rfl (lv_at hl 4 rfl) ?_
  refine gy_ge (a := i) (b := sz) (tgt := 76) hx hb (by omega) (by omega) dX6_behindRun_23 (by decide) (fun c_1 => ?_) (fun c_1 => ?_)
  · refine lv_iload_n hx hb dX6_behindRun_76 rfl (lv_at hl 4 rfl) ?_
    exact gx_iret (w' := [(a, .inl (cB, 4000, .inl f))]) hx hb hr hlk hK hP hD hS (Nat.le_of_ble_eq_true rfl) (Nat.le_of_ble_eq_true rfl) dX6_behindRun_77 ⟨sz, (by omega), (by omega), (fun h j a b => hi20_3 h j a (by omega)), ⟨by omega, Nat.le_refl _, fun h => ⟨fun j a b => hi20_2 h j a (by omega), fun q => absurd q (Nat.lt_irrefl _)⟩, fun h => ⟨fun j a b => hi20_3 h j a (by omega), fun q => absurd q (Nat.lt_irrefl _)⟩, fun a b => (by have := hi20_4 a b; omega)⟩, rfl, rfl⟩
  · refine lv_iload_n hx hb dX6_behindRun_26 rfl (lv_at hl 2 rfl) ?_
    refine lv_if_eq (tgt := 40) hx hb dX6_behindRun_27 (by decide) (fun c_2 => ?_) (fun c_2 => ?_)
    · have c_2 : ¬ (¬ (f fr) < 97 ∧ ¬ 122 < (f fr)) := gy_b0 c_2
      refine lv_iload hx hb dX6_behindRun_40 (lv_at hl 1 rfl) ?_
      refine lv_if_eq (tgt := 59) hx hb dX6_behindRun_42 (by decide) (fun c_3 => ?_) (fun c_3 => ?_)
      · have c_3 : ¬ (¬ (f fr) < 48 ∧ ¬ 57 < (f fr)) := gy_b0 c_3
        refine lv_iconst (v := 0) hx hb dX6_behindRun_59 (by decide) ?_
        refine lv_istore (lv' := [(6, .int 0), (5, .int (nI i)), (4, .int (if ¬ (f fr) < 48 ∧ ¬ 57 < (f fr) then 1 else 0)), (3, .int (if ¬ (f fr) < 97 ∧ ¬ 122 < (f fr) then 1 else 0)), (0, .ref a), (1, .int (nI sz)), (2, .int (nI fr))]) hx hb dX6_behindRun_60 hl (by decide) rfl (fun ls hl => ?_)
        refine lv_iload hx hb dX6_behindRun_62 (lv_at hl 0 rfl) ?_
        refine lv_if_ne (tgt := 70) hx hb dX6_behindRun_64 (by decide) (fun c9 => absurd (by decide) c9) (fun _ => ?_)
        refine lv_iload hx hb dX6_behindRun_67 (lv_at hl 1 rfl) ?_
        exact gx_iret (w' := [(a, .inl (cB, 4000, .inl f))]) hx hb hr hlk hK hP hD hS (Nat.le_of_ble_eq_true rfl) (Nat.le_of_ble_eq_true rfl) dX6_behindRun_69 ⟨i, (by omega), (by omega), (fun h j a b => hi20_3 h j a (by omega)), ⟨by omega, by omega, fun h => ⟨hi20_2 h, fun _ => (by first | exact c_3 | exact c_2 | exact c_1 | exact absurd h c_3 | exact absurd h c_2 | exact absurd h c_1 | exact absurd h c_1)⟩, fun h => ⟨hi20_3 h, fun _ => (by first | exact c_3 | exact c_2 | exact c_1 | exact absurd h c_3 | exact absurd h c_2 | exact absurd h c_1 | exact absurd h c_1)⟩, hi20_4⟩, rfl, rfl⟩
      · have c_3 : ¬ (f fr) < 48 ∧ ¬ 57 < (f fr) := gy_b1 c_3
        refine lv_aload_n hx hb dX6_behindRun_45 rfl (lv_at hl 3 rfl) ?_
        refine lv_iload hx hb dX6_behindRun_46 (lv_at hl 0 rfl) ?_
        refine gy_bld (i := i) hx hb hK hP 0 rfl (by omega) (by omega) dX6_behindRun_48 ?_
        refine gx_goi (wc := []) (wr := [(a, .inl (cB, 4000, .inl f))]) (va_runS (As := [.int (f i)]) (rest := []) ⟨hx, hb, hml, hown, hts⟩ (c_isDigit l D cI cB cZ (f i) _) (va_cwS 1 hts gP_x_run__c_isDigit rfl rfl rfl (by decide +kernel) ⟨Nat.le_of_ble_eq_true rfl, Nat.le_of_ble_eq_true rfl⟩) (gx_preS hK gN.nil hP hD [] rfl rfl) rfl rfl hl.1 rfl (lv_room (Nat.le_of_ble_eq_true rfl)) dX6_behindRun_49 ⟨Nat.le_of_ble_eq_true rfl, Nat.le_of_ble_eq_true rfl⟩) hP hD hS hA [] [0] rfl rfl rfl (by decide) (fun r1 w1 H locs hp hP hD hS => ?_)
        obtain ⟨h9, rfl⟩ := hp
        have h9 := h9.symm
        subst h9
        refine lv_if_eq (tgt := 59) hx hb dX6_behindRun_52 (by decide) (fun c_4 => ?_) (fun c_4 => ?_)
        · have c_4 : ¬ (¬ (f i) < 48 ∧ ¬ 57 < (f i)) := gy_b0 c_4
          refine lv_iconst (v := 0) hx hb dX6_behindRun_59 (by decide) ?_
          refine lv_istore (lv' := [(6, .int 0), (5, .int (nI i)), (4, .int (if ¬ (f fr) < 48 ∧ ¬ 57 < (f fr) then 1 else 0)), (3, .int (if ¬ (f fr) < 97 ∧ ¬ 122 < (f fr) then 1 else 0)), (0, .ref a), (1, .int (nI sz)), (2, .int (nI fr))]) hx hb dX6_behindRun_60 hl (by decide) rfl (fun ls hl => ?_)
          refine lv_iload hx hb dX6_behindRun_62 (lv_at hl 0 rfl) ?_
          refine lv_if_ne (tgt := 70) hx hb dX6_behindRun_64 (by decide) (fun c9 => absurd (by decide) c9) (fun _ => ?_)
          refine lv_iload hx hb dX6_behindRun_67 (lv_at hl 1 rfl) ?_
          exact gx_iret (w' := [(a, .inl (cB, 4000, .inl f))]) hx hb hr hlk hK hP hD hS (Nat.le_of_ble_eq_true rfl) (Nat.le_of_ble_eq_true rfl) dX6_behindRun_69 ⟨i, (by omega), (by omega), (fun h j a b => hi20_3 h j a (by omega)), ⟨by omega, by omega, fun h => ⟨hi20_2 h, fun _ => (by first | exact c_4 | exact c_3 | exact c_2 | exact absurd h c_4 | exact absurd h c_3 | exact absurd h c_2 | exact absurd h c_1)⟩, fun h => ⟨hi20_3 h, fun _ => (by first | exact c_4 | exact c_3 | exact c_2 | exact absurd h c_4 | exact absurd h c_3 | exact absurd h c_2 | exact absurd h c_1)⟩, hi20_4⟩, rfl, rfl⟩
        · have c_4 : ¬ (f i) < 48 ∧ ¬ 57 < (f i) := gy_b1 c_4
          refine lv_iconst (v := 1) hx hb dX6_behindRun_55 (by decide) ?_
          refine lv_goto (tgt := 60) hx hb dX6_behindRun_56 (by decide) ?_
          refine lv_istore (lv' := [(6, .int 1), (5, .int (nI i)), (4, .int (if ¬ (f fr) < 48 ∧ ¬ 57 < (f fr) then 1 else 0)), (3, .int (if ¬ (f fr) < 97 ∧ ¬ 122 < (f fr) then 1 else 0)), (0, .ref a), (1, .int (nI sz)), (2, .int (nI fr))]) hx hb dX6_behindRun_60 hl (by decide) rfl (fun ls hl => ?_)
          refine lv_iload hx hb dX6_behindRun_62 (lv_at hl 0 rfl) ?_
          refine lv_if_ne (tgt := 70) hx hb dX6_behindRun_64 (by decide) (fun _ => ?_) (fun c9 => absurd c9 (by decide))
          refine lv_iinc (v := nI (i + 1)) (lv' := [(5, .int (nI (i + 1))), (6, .int 1), (4, .int (if ¬ (f fr) < 48 ∧ ¬ 57 < (f fr) then 1 else 0)), (3, .int (if ¬ (f fr) < 97 ∧ ¬ 122 < (f fr) then 1 else 0)), (0, .ref a), (1, .int (nI sz)), (2, .int (nI fr))]) hx hb dX6_behindRun_70 hl (k := 1) rfl (nI_add i 1) (by decide) rfl (fun ls hl => ?_)
          refine lv_goto (tgt := 20) hx hb dX6_behindRun_73 (by decide) ?_
          exact ih20 (i + 1) H locs ls ⟨(by show fr < (i + 1); omega), (by show (i + 1) ≤ sz; omega), (fun h => gy_run (P := fun j => gLe (f j)) (hi20_2 h) (by first | exact c_4 | exact (gLD h c_3).elim)), (fun h => gy_run (P := fun j => gDi (f j)) (hi20_3 h) (by first | exact c_4 | exact (gLD c_3 h).elim)), (fun h1 h2 => by first | exact absurd c_3 h1 | exact absurd c_3 h2), hP, hD, hS, lv_sub hl [0, 2, 3, 4, 5, 6] rfl⟩ (by show sz - (i + 1) < sz - i; omega)
    · have c_2 : ¬ (f fr) < 97 ∧ ¬ 122 < (f fr) := gy_b1 c_2
      refine lv_aload_n hx hb dX6_behindRun_30 rfl (lv_at hl 3 rfl) ?_
      refine lv_iload hx hb dX6_behindRun_31 (lv_at hl 0 rfl) ?_
      refine gy_bld (i := i) hx hb hK hP 0 rfl (by omega) (by omega) dX6_behindRun_33 ?_
      refine gx_goi (wc := []) (wr := [(a, .inl (cB, 4000, .inl f))]) (va_runS (As := [.int (f i)]) (rest := []) ⟨hx, hb, hml, hown, hts⟩ (c_isLetter l D cI cB cZ (f i) _) (va_cwS 1 hts gP_x_run__c_isLetter rfl rfl rfl (by decide +kernel) ⟨Nat.le_of_ble_eq_true rfl, Nat.le_of_ble_eq_true rfl⟩) (gx_preS hK gN.nil hP hD [] rfl rfl) rfl rfl hl.1 rfl (lv_room (Nat.le_of_ble_eq_true rfl)) dX6_behindRun_34 ⟨Nat.le_of_ble_eq_true rfl, Nat.le_of_ble_eq_true rfl⟩) hP hD hS hA [] [0] rfl rfl rfl (by decide) (fun r1 w1 H locs hp hP hD hS => ?_)
      obtain ⟨h9, rfl⟩ := hp
      have h9 := h9.symm
      subst h9
      refine lv_if_ne (tgt := 55) hx hb dX6_behindRun_37 (by decide) (fun c_5 => ?_) (fun c_5 => ?_)
      · have c_5 : ¬ (f i) < 97 ∧ ¬ 122 < (f i) := gy_b1 c_5
        refine lv_iconst (v := 1) hx hb dX6_behindRun_55 (by decide) ?_
        refine lv_goto (tgt := 60) hx hb dX6_behindRun_56 (by decide) ?_
        refine lv_istore (lv' := [(6, .int 1), (5, .int (nI i)), (4, .int (if ¬ (f fr) < 48 ∧ ¬ 57 < (f fr) then 1 else 0)), (3, .int (if ¬ (f fr) < 97 ∧ ¬ 122 < (f fr) then 1 else 0)), (0, .ref a), (1, .int (nI sz)), (2, .int (nI fr))]) hx hb dX6_behindRun_60 hl (by decide) rfl (fun ls hl => ?_)
        refine lv_iload hx hb dX6_behindRun_62 (lv_at hl 0 rfl) ?_
        refine lv_if_ne (tgt := 70) hx hb dX6_behindRun_64 (by decide) (fun _ => ?_) (fun c9 => absurd c9 (by decide))
        refine lv_iinc (v := nI (i + 1)) (lv' := [(5, .int (nI (i + 1))), (6, .int 1), (4, .int (if ¬ (f fr) < 48 ∧ ¬ 57 < (f fr) then 1 else 0)), (3, .int (if ¬ (f fr) < 97 ∧ ¬ 122 < (f fr) then 1 else 0)), (0, .ref a), (1, .int (nI sz)), (2, .int (nI fr))]) hx hb dX6_behindRun_70 hl (k := 1) rfl (nI_add i 1) (by decide) rfl (fun ls hl => ?_)
        refine lv_goto (tgt := 20) hx hb dX6_behindRun_73 (by decide) ?_
        exact ih20 (i + 1) H locs ls ⟨(by show fr < (i + 1); omega), (by show (i + 1) ≤ sz; omega), (fun h => gy_run (P := fun j => gLe (f j)) (hi20_2 h) (by first | exact c_5 | exact (gLD h c_2).elim)), (fun h => gy_run (P := fun j => gDi (f j)) (hi20_3 h) (by first | exact c_5 | exact (gLD c_2 h).elim)), (fun h1 h2 => by first | exact absurd c_2 h1 | exact absurd c_2 h2), hP, hD, hS, lv_sub hl [0, 2, 3, 4, 5, 6] rfl⟩ (by show sz - (i + 1) < sz - i; omega)
      · have c_5 : ¬ (¬ (f i) < 97 ∧ ¬ 122 < (f i)) := gy_b0 c_5
        refine lv_iload hx hb dX6_behindRun_40 (lv_at hl 1 rfl) ?_
        refine lv_if_eq (tgt := 59) hx hb dX6_behindRun_42 (by decide) (fun c_6 => ?_) (fun c_6 => ?_)
        · have c_6 : ¬ (¬ (f fr) < 48 ∧ ¬ 57 < (f fr)) := gy_b0 c_6
          refine lv_iconst (v := 0) hx hb dX6_behindRun_59 (by decide) ?_
          refine lv_istore (lv' := [(6, .int 0), (5, .int (nI i)), (4, .int (if ¬ (f fr) < 48 ∧ ¬ 57 < (f fr) then 1 else 0)), (3, .int (if ¬ (f fr) < 97 ∧ ¬ 122 < (f fr) then 1 else 0)), (0, .ref a), (1, .int (nI sz)), (2, .int (nI fr))]) hx hb dX6_behindRun_60 hl (by decide) rfl (fun ls hl => ?_)
          refine lv_iload hx hb dX6_behindRun_62 (lv_at hl 0 rfl) ?_
          refine lv_if_ne (tgt := 70) hx hb dX6_behindRun_64 (by decide) (fun c9 => absurd (by decide) c9) (fun _ => ?_)
          refine lv_iload hx hb dX6_behindRun_67 (lv_at hl 1 rfl) ?_
          exact gx_iret (w' := [(a, .inl (cB, 4000, .inl f))]) hx hb hr hlk hK hP hD hS (Nat.le_of_ble_eq_true rfl) (Nat.le_of_ble_eq_true rfl) dX6_behindRun_69 ⟨i, (by omega), (by omega), (fun h j a b => hi20_3 h j a (by omega)), ⟨by omega, by omega, fun h => ⟨hi20_2 h, fun _ => (by first | exact c_6 | exact c_5 | exact c_2 | exact absurd h c_6 | exact absurd h c_5 | exact absurd h c_2 | exact absurd h c_1)⟩, fun h => ⟨hi20_3 h, fun _ => (by first | exact c_6 | exact c_5 | exact c_2 | exact absurd h c_6 | exact absurd h c_5 | exact absurd h c_2 | exact absurd h c_1)⟩, hi20_4⟩, rfl, rfl⟩
        · have c_6 : ¬ (f fr) < 48 ∧ ¬ 57 < (f fr) := gy_b1 c_6
          refine lv_aload_n hx hb dX6_behindRun_45 rfl (lv_at hl 3 rfl) ?_
          refine lv_iload hx hb dX6_behindRun_46 (lv_at hl 0 rfl) ?_
          refine gy_bld (i := i) hx hb hK hP 0 rfl (by omega) (by omega) dX6_behindRun_48 ?_
          refine gx_goi (wc := []) (wr := [(a, .inl (cB, 4000, .inl f))]) (va_runS (As := [.int (f i)]) (rest := []) ⟨hx, hb, hml, hown, hts⟩ (c_isDigit l D cI cB cZ (f i) _) (va_cwS 1 hts gP_x_run__c_isDigit rfl rfl rfl (by decide +kernel) ⟨Nat.le_of_ble_eq_true rfl, Nat.le_of_ble_eq_true rfl⟩) (gx_preS hK gN.nil hP hD [] rfl rfl) rfl rfl hl.1 rfl (lv_room (Nat.le_of_ble_eq_true rfl)) dX6_behindRun_49 ⟨Nat.le_of_ble_eq_true rfl, Nat.le_of_ble_eq_true rfl⟩) hP hD hS hA [] [0] rfl rfl rfl (by decide) (fun r1 w1 H locs hp hP hD hS => ?_)
          obtain ⟨h9, rfl⟩ := hp
          have h9 := h9.symm
          subst h9
          refine lv_if_eq (tgt := 59) hx hb dX6_behindRun_52 (by decide) (fun c_7 => ?_) (fun c_7 => ?_)
          · have c_7 : ¬ (¬ (f i) < 48 ∧ ¬ 57 < (f i)) := gy_b0 c_7
            refine lv_iconst (v := 0) hx hb dX6_behindRun_59 (by decide) ?_
            refine lv_istore (lv' := [(6, .int 0), (5, .int (nI i)), (4, .int (if ¬ (f fr) < 48 ∧ ¬ 57 < (f fr) then 1 else 0)), (3, .int (if ¬ (f fr) < 97 ∧ ¬ 122 < (f fr) then 1 else 0)), (0, .ref a), (1, .int (nI sz)), (2, .int (nI fr))]) hx hb dX6_behindRun_60 hl (by decide) rfl (fun ls hl => ?_)
            refine lv_iload hx hb dX6_behindRun_62 (lv_at hl 0 rfl) ?_
            refine lv_if_ne (tgt := 70) hx hb dX6_behindRun_64 (by decide) (fun c9 => absurd (by decide) c9) (fun _ => ?_)
            refine lv_iload hx hb dX6_behindRun_67 (lv_at hl 1 rfl) ?_
            exact gx_iret (w' := [(a, .inl (cB, 4000, .inl f))]) hx hb hr hlk hK hP hD hS (Nat.le_of_ble_eq_true rfl) (Nat.le_of_ble_eq_true rfl) dX6_behindRun_69 ⟨i, (by omega), (by omega), (fun h j a b => hi20_3 h j a (by omega)), ⟨by omega, by omega, fun h => ⟨hi20_2 h, fun _ => (by first | exact c_7 | exact c_6 | exact c_5 | exact absurd h c_7 | exact absurd h c_6 | exact absurd h c_5 | exact absurd h c_2)⟩, fun h => ⟨hi20_3 h, fun _ => (by first | exact c_7 | exact c_6 | exact c_5 | exact absurd h c_7 | exact absurd h c_6 | exact absurd h c_5 | exact absurd h c_2)⟩, hi20_4⟩, rfl, rfl⟩
          · have c_7 : ¬ (f i) < 48 ∧ ¬ 57 < (f i) := gy_b1 c_7
            refine lv_iconst (v := 1) hx hb dX6_behindRun_55 (by decide) ?_
            refine lv_goto (tgt := 60) hx hb dX6_behindRun_56 (by decide) ?_
            refine lv_istore (lv' := [(6, .int 1), (5, .int (nI i)), (4, .int (if ¬ (f fr) < 48 ∧ ¬ 57 < (f fr) then 1 else 0)), (3, .int (if ¬ (f fr) < 97 ∧ ¬ 122 < (f fr) then 1 else 0)), (0, .ref a), (1, .int (nI sz)), (2, .int (nI fr))]) hx hb dX6_behindRun_60 hl (by decide) rfl (fun ls hl => ?_)
            refine lv_iload hx hb dX6_behindRun_62 (lv_at hl 0 rfl) ?_
            refine lv_if_ne (tgt := 70) hx hb dX6_behindRun_64 (by decide) (fun _ => ?_) (fun c9 => absurd c9 (by decide))
            refine lv_iinc (v := nI (i + 1)) (lv' := [(5, .int (nI (i + 1))), (6, .int 1), (4, .int (if ¬ (f fr) < 48 ∧ ¬ 57 < (f fr) then 1 else 0)), (3, .int (if ¬ (f fr) < 97 ∧ ¬ 122 < (f fr) then 1 else 0)), (0, .ref a), (1, .int (nI sz)), (2, .int (nI fr))]) hx hb dX6_behindRun_70 hl (k := 1) rfl (nI_add i 1) (by decide) rfl (fun ls hl => ?_)
            refine lv_goto (tgt := 20) hx hb dX6_behindRun_73 (by decide) ?_
            exact ih20 (i + 1) H locs ls ⟨(by show fr < (i + 1); omega), (by show (i + 1) ≤ sz; omega), (fun h => gy_run (P := fun j => gLe (f j)) (hi20_2 h) (by first | exact c_7 | exact (gLD h c_6).elim)), (fun h => gy_run (P := fun j => gDi (f j)) (hi20_3 h) (by first | exact c_7 | exact (gLD c_6 h).elim)), (fun h1 h2 => by first | exact absurd c_6 h1 | exact absurd c_6 h2), hP, hD, hS, lv_sub hl [0, 2, 3, 4, 5, 6] rfl⟩ (by show sz - (i + 1) < sz - i; omega)
def wsP_x_num : List Cond := .code yX6_numberOf cX6_numberOf 5 (some .int) :: (([]) ++ [])
theorem gW_x_num : wsP_x_num.all goodWord = true := by unfold wsP_x_num; exact gw_mk (by decide +kernel) rfl
set_option maxHeartbeats 4000000 in
set_option maxRecDepth 100000 in
theorem x_num (l : Launch) (D : va_G) (cI cB cZ : ClassId) (a : Nat) (f : Nat → Int32) (fr : Nat) (b : Nat) (hb0 : b ≤ 4000) (hfb : fr ≤ b) (h3 : b ≤ fr + 3) (hd : ∀ j, fr ≤ j → j < b → (¬ f j < 48 ∧ ¬ 57 < f j)) : gMi l yX6_numberOf wsP_x_num ({ frames := 0, cells := 0, slots := 0, locals := 0 }) D cI cB cZ [] [.ref a, .int (nI fr), .int (nI b)] [(a, .inl (cB, 4000, .inl f))] (fun r9 w9 => ∃ t : Nat, (t ≤ 999) ∧ (t = rNm f fr (b - fr)) ∧ r9 = (nI t) ∧ w9 = [(a, .inl (cB, 4000, .inl f))]) := by
  refine gMi.of (cc := cX6_numberOf) (maxL := 5) (ret := (some .int)) (by decide) rfl (Nat.le_of_ble_eq_true rfl) (fun p e s m below meth c A ls hx hb hr hlk hml hts hown hin hA hP hK hD hS hN hl => ?_)
  have hown : s.vm.findClass RX6 = some m.cls := hown
  have hl : lv_has ls 5 [(0, .ref a), (1, .int (nI fr)), (2, .int (nI b))] := hl
  refine lv_iconst (v := 0) hx hb dX6_numberOf_0 (by decide) ?_
  refine lv_istore_n (lv' := [(3, .int 0), (0, .ref a), (1, .int (nI fr)), (2, .int (nI b))]) hx hb dX6_numberOf_1 rfl hl (by decide) rfl (fun ls hl => ?_)
  refine lv_iload_n hx hb dX6_numberOf_2 rfl (lv_at hl 2 rfl) ?_
  refine lv_istore (lv' := [(4, .int (nI fr)), (3, .int 0), (0, .ref a), (1, .int (nI fr)), (2, .int (nI b))]) hx hb dX6_numberOf_3 hl (by decide) rfl (fun ls hl => ?_)
  refine gy_loop0 (I := fun (x9 : Nat × Nat) H locs ls => (fr ≤ x9.1) ∧ (x9.1 ≤ b) ∧ ((x9.1 = fr ∧ x9.2 = 0) ∨ (x9.1 = fr + 1 ∧ x9.2 ≤ 9) ∨ (x9.1 = fr + 2 ∧ x9.2 ≤ 99) ∨ (x9.1 = fr + 3 ∧ x9.2 ≤ 999)) ∧ (x9.2 = rNm f fr (x9.1 - fr)) ∧ va_P D vwCl [(a, .inl (cB, 4000, .inl f))] H ∧ va_D A [(a, .inl (cB, 4000, .inl f))] ∧ va_S A s.heap H locs ∧ lv_has ls 5 [(4, .int (nI x9.1)), (3, .int (nI x9.2)), (0, .ref a), (1, .int (nI fr)), (2, .int (nI b))]) (μ := fun (x9 : Nat × Nat) => b - x9.1) (fun x9 H locs ls hI ih5 => ?_) (fr, 0) ⟨(by show fr ≤ fr; omega), (by show fr ≤ b; omega), (by show (fr = fr ∧ 0 = 0) ∨ (fr = fr + 1 ∧ 0 ≤ 9) ∨ (fr = fr + 2 ∧ 0 ≤ 99) ∨ (fr = fr + 3 ∧ 0 ≤ 999); omega), (by rw [Nat.sub_self]; rfl), hP, hD, hS, lv_sub hl [0, 1, 2, 3, 4] rfl⟩
  obtain ⟨i, m9⟩ := x9
  obtain ⟨hi5_0, hi5_1, hi5_2, hi5_3, hP, hD, hS, hl⟩ := hI
  have hi5_0 : fr ≤ i := hi5_0
  have hi5_1 : i ≤ b := hi5_1
  have hi5_2 : (i = fr ∧ m9 = 0) ∨ (i = fr + 1 ∧ m9 ≤ 9) ∨ (i = fr + 2 ∧ m9 ≤ 99) ∨ (i = fr + 3 ∧ m9 ≤ 999) := hi5_2
  have hi5_3 : m9 = rNm f fr (i - fr) := hi5_3
  have hP : va_P D vwCl [(a, .inl (cB, 4000, .inl f))] H := hP
  have hD : va_D A [(a, .inl (cB, 4000, .inl f))] := hD
  have hS : va_S A s.heap H locs := hS
  have hl : lv_has ls 5 [(4, .int (nI i)), (3, .int (nI m9)), (0, .ref a), (1, .int (nI fr)), (2, .int (nI b))] := hl
  refine lv_iload hx hb dX6_numberOf_5 (lv_at hl 0 rfl) ?_
  refine lv_iload_n hx hb dX6_numberOf_7 rfl (lv_at hl 4 rfl) ?_
  refine gy_ge (a := i) (b := b) (tgt := 30) hx hb (by omega) (by omega) dX6_numberOf_8 (by decide) (fun c_1 => ?_) (fun c_1 => ?_)
  · refine lv_iload_n hx hb dX6_numberOf_30 rfl (lv_at hl 1 rfl) ?_
    exact gx_iret (w' := [(a, .inl (cB, 4000, .inl f))]) hx hb hr hlk hK hP hD hS (Nat.le_of_ble_eq_true rfl) (Nat.le_of_ble_eq_true rfl) dX6_numberOf_31 ⟨m9, (by omega), (by rw [show b - fr = i - fr by omega]; exact hi5_3), rfl, rfl⟩
  · refine lv_iload_n hx hb dX6_numberOf_11 rfl (lv_at hl 1 rfl) ?_
    refine lv_bipush (v := 10) hx hb dX6_numberOf_12 (by decide) ?_
    refine lv_imul hx hb dX6_numberOf_14 ?_
    refine gx_top (y := nI (m9 * 10)) (pk_mul m9 10) ?_
    refine lv_aload_n hx hb dX6_numberOf_15 rfl (lv_at hl 2 rfl) ?_
    refine lv_iload hx hb dX6_numberOf_16 (lv_at hl 0 rfl) ?_
    obtain ⟨d, hd9, ed⟩ := gy_dig (hd i (by omega) (by omega))
    refine gy_bld (i := i) hx hb hK hP 0 rfl (by omega) (by omega) dX6_numberOf_18 ?_
    refine gx_top (y := nI (48 + d)) ed ?_
    refine lv_bipush (v := 48) hx hb dX6_numberOf_19 (by decide) ?_
    refine lv_isub hx hb dX6_numberOf_21 ?_
    refine gx_top (y := nI d) (show nI (48 + d) - nI 48 = nI d by rw [pk_sub (a := 48 + d) (b := 48) (by omega)]; congr 1; omega) ?_
    refine lv_iadd hx hb dX6_numberOf_22 ?_
    refine gx_top (y := nI ((m9 * 10) + d)) (nI_add (m9 * 10) d) ?_
    refine lv_istore_n (lv' := [(3, .int (nI ((m9 * 10) + d))), (4, .int (nI i)), (0, .ref a), (1, .int (nI fr)), (2, .int (nI b))]) hx hb dX6_numberOf_23 rfl hl (by decide) rfl (fun ls hl => ?_)
    refine lv_iinc (v := nI (i + 1)) (lv' := [(4, .int (nI (i + 1))), (3, .int (nI ((m9 * 10) + d))), (0, .ref a), (1, .int (nI fr)), (2, .int (nI b))]) hx hb dX6_numberOf_24 hl (k := 1) rfl (nI_add i 1) (by decide) rfl (fun ls hl => ?_)
    refine lv_goto (tgt := 5) hx hb dX6_numberOf_27 (by decide) ?_
    exact ih5 ((i + 1), ((m9 * 10) + d)) H locs ls ⟨(by show fr ≤ (i + 1); omega), (by show (i + 1) ≤ b; omega), (by show ((i + 1) = fr ∧ ((m9 * 10) + d) = 0) ∨ ((i + 1) = fr + 1 ∧ ((m9 * 10) + d) ≤ 9) ∨ ((i + 1) = fr + 2 ∧ ((m9 * 10) + d) ≤ 99) ∨ ((i + 1) = fr + 3 ∧ ((m9 * 10) + d) ≤ 999); omega), (rNm_s hi5_0 hi5_3 ed hd9), hP, hD, hS, lv_sub hl [0, 1, 2, 3, 4] rfl⟩ (by show b - (i + 1) < b - i; omega)
