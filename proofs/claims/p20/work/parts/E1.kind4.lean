
def gLe (x : Int32) : Prop := ¬ x < 97 ∧ ¬ 122 < x
def gDi (x : Int32) : Prop := ¬ x < 48 ∧ ¬ 57 < x
/-- of which kind the TOKEN from fr to bh is -/
def gKd (f : Nat → Int32) (fr bh q : Nat) : Prop := (gLe (f fr) ∧ gWk f fr (bh - fr) q) ∨ (¬ gLe (f fr) ∧ gDi (f fr) ∧ ((bh - fr ≤ 3 ∧ q = 16) ∨ (3 < bh - fr ∧ q = 22))) ∨ (¬ gLe (f fr) ∧ ¬ gDi (f fr) ∧ ((f fr = 45 ∧ q = 20) ∨ (f fr = 58 ∧ q = 17) ∨ (f fr = 59 ∧ q = 18) ∨ (f fr = 61 ∧ q = 19) ∨ (¬ f fr = 45 ∧ ¬ f fr = 58 ∧ ¬ f fr = 59 ∧ ¬ f fr = 61 ∧ q = 22)))
def wsP_e_kindOf : List Cond := .code yX6_kindOf cX6_kindOf 3 (some .int) :: (([.methodLink RX6 74 yX6_isLetter, .static yX6_isLetter, .initialized yX6_isLetter.cls, .methodLink RX6 78 yX6_isDigit, .static yX6_isDigit, .initialized yX6_isDigit.cls, .methodLink RX6 81 yX6_wordKind, .static yX6_wordKind, .initialized yX6_wordKind.cls]) ++ (wsP_c_isLetter ++ (wsP_c_isDigit ++ (wsP_e_wordKind ++ []))))
theorem gW_e_kindOf : wsP_e_kindOf.all goodWord = true := by unfold wsP_e_kindOf; exact gw_mk (by decide +kernel) (gw_app gW_c_isLetter (gw_app gW_c_isDigit (gw_app gW_e_wordKind rfl)))
set_option maxRecDepth 20000 in
theorem gP_e_kindOf__c_isLetter : GoodIn wsP_e_kindOf (va_wsS RX6 74 yX6_isLetter wsP_c_isLetter) := gw_in (pre := [.methodLink RX6 74 yX6_isLetter, .static yX6_isLetter, .initialized yX6_isLetter.cls]) (by decide +kernel) (fun _ h => List.mem_cons_of_mem _ (List.mem_append_right _ (List.mem_append_left _ h))) gW_c_isLetter
set_option maxRecDepth 20000 in
theorem gP_e_kindOf__c_isDigit : GoodIn wsP_e_kindOf (va_wsS RX6 78 yX6_isDigit wsP_c_isDigit) := gw_in (pre := [.methodLink RX6 78 yX6_isDigit, .static yX6_isDigit, .initialized yX6_isDigit.cls]) (by decide +kernel) (fun _ h => List.mem_cons_of_mem _ (List.mem_append_right _ (List.mem_append_right _ (List.mem_append_left _ h)))) gW_c_isDigit
set_option maxRecDepth 20000 in
theorem gP_e_kindOf__e_wordKind : GoodIn wsP_e_kindOf (va_wsS RX6 81 yX6_wordKind wsP_e_wordKind) := gw_in (pre := [.methodLink RX6 81 yX6_wordKind, .static yX6_wordKind, .initialized yX6_wordKind.cls]) (by decide +kernel) (fun _ h => List.mem_cons_of_mem _ (List.mem_append_right _ (List.mem_append_right _ (List.mem_append_right _ (List.mem_append_left _ h))))) gW_e_wordKind
set_option maxHeartbeats 4000000 in
set_option maxRecDepth 100000 in
theorem e_kindOf (l : Launch) (D : va_G) (cI cB cZ : ClassId) (K : gKS) (a : Nat) (f : Nat → Int32) (fr : Nat) (bh : Nat) (hfb : fr < bh) (hbh : bh ≤ 4000) : gMiE l yX6_kindOf wsP_e_kindOf ({ frames := 6, cells := 0, slots := 0, locals := 132 }) D cI cB cZ K [] [.ref a, .int (nI fr), .int (nI bh)] [(a, .inl (cB, 4000, .inl f))] (fun r9 w9 => ∃ q : Nat, (gKd f fr bh q) ∧ r9 = (nI q) ∧ w9 = [(a, .inl (cB, 4000, .inl f))]) := by
  refine gMiE.of (cc := cX6_kindOf) (maxL := 3) (ret := (some .int)) (by decide) rfl (Nat.le_of_ble_eq_true rfl) (fun p e s m below meth c A ls hx hb hr hlk hml hts hown hin hA hP hK hD hS hN hE hl => ?_)
  have hown : s.vm.findClass RX6 = some m.cls := hown
  have hl : lv_has ls 3 [(0, .ref a), (1, .int (nI fr)), (2, .int (nI bh))] := hl
  refine lv_aload_n hx hb dX6_kindOf_0 rfl (lv_at hl 0 rfl) ?_
  refine lv_iload_n hx hb dX6_kindOf_1 rfl (lv_at hl 1 rfl) ?_
  refine gy_bld (i := fr) hx hb hK hP 0 rfl (by omega) (by omega) dX6_kindOf_2 ?_
  refine gx_goi (wc := []) (wr := [(a, .inl (cB, 4000, .inl f))]) (va_runS (As := [.int (f fr)]) (rest := []) ⟨hx, hb, hml, hown, hts⟩ (c_isLetter l D cI cB cZ (f fr) _) (va_cwS 1 hts gP_e_kindOf__c_isLetter rfl rfl rfl (by decide +kernel) ⟨Nat.le_of_ble_eq_true rfl, Nat.le_of_ble_eq_true rfl⟩) (gx_preS hK gN.nil hP hD [] rfl rfl) rfl rfl hl.1 rfl (lv_room (Nat.le_of_ble_eq_true rfl)) dX6_kindOf_3 ⟨Nat.le_of_ble_eq_true rfl, Nat.le_of_ble_eq_true rfl⟩) hP hD hS hA [] [0] rfl rfl rfl (by decide) (fun r1 w1 H locs hp hP hD hS => ?_)
  obtain ⟨h9, rfl⟩ := hp
  have h9 := h9.symm
  subst h9
  refine lv_if_eq (tgt := 18) hx hb dX6_kindOf_6 (by decide) (fun c_1 => ?_) (fun c_1 => ?_)
  · have c_1 : ¬ (¬ (f fr) < 97 ∧ ¬ 122 < (f fr)) := gy_b0 c_1
    have hnl : ¬ gLe (f fr) := c_1
    refine lv_aload_n hx hb dX6_kindOf_18 rfl (lv_at hl 0 rfl) ?_
    refine lv_iload_n hx hb dX6_kindOf_19 rfl (lv_at hl 1 rfl) ?_
    refine gy_bld (i := fr) hx hb hK hP 0 rfl (by omega) (by omega) dX6_kindOf_20 ?_
    refine gx_goi (wc := []) (wr := [(a, .inl (cB, 4000, .inl f))]) (va_runS (As := [.int (f fr)]) (rest := []) ⟨hx, hb, hml, hown, hts⟩ (c_isDigit l D cI cB cZ (f fr) _) (va_cwS 1 hts gP_e_kindOf__c_isDigit rfl rfl rfl (by decide +kernel) ⟨Nat.le_of_ble_eq_true rfl, Nat.le_of_ble_eq_true rfl⟩) (gx_preS hK gN.nil hP hD [] rfl rfl) rfl rfl hl.1 rfl (lv_room (Nat.le_of_ble_eq_true rfl)) dX6_kindOf_21 ⟨Nat.le_of_ble_eq_true rfl, Nat.le_of_ble_eq_true rfl⟩) hP hD hS hA [] [0] rfl rfl rfl (by decide) (fun r1 w1 H locs hp hP hD hS => ?_)
    obtain ⟨h9, rfl⟩ := hp
    have h9 := h9.symm
    subst h9
    refine lv_if_eq (tgt := 42) hx hb dX6_kindOf_24 (by decide) (fun c_2 => ?_) (fun c_2 => ?_)
    · have c_2 : ¬ (¬ (f fr) < 48 ∧ ¬ 57 < (f fr)) := gy_b0 c_2
      have hnd : ¬ gDi (f fr) := c_2
      refine lv_aload_n hx hb dX6_kindOf_42 rfl (lv_at hl 0 rfl) ?_
      refine lv_iload_n hx hb dX6_kindOf_43 rfl (lv_at hl 1 rfl) ?_
      refine gy_bld (i := fr) hx hb hK hP 0 rfl (by omega) (by omega) dX6_kindOf_44 ?_
      by_cases c_3 : f fr = 45
      · refine lv_lookup (off := 52) (tgt := 97) hx hb dX6_kindOf_45 (by decide) (by rw [c_3]; decide +kernel) (by decide) ?_
        refine lv_bipush (v := 20) hx hb dX6_kindOf_97 (by decide) ?_
        exact gx_iret (w' := [(a, .inl (cB, 4000, .inl f))]) hx hb hr hlk hK hP hD hS (Nat.le_of_ble_eq_true rfl) (Nat.le_of_ble_eq_true rfl) dX6_kindOf_99 ⟨20, (Or.inr (Or.inr ⟨hnl, hnd, Or.inl ⟨by assumption, rfl⟩⟩)), rfl, rfl⟩
      · by_cases c_4 : f fr = 58
        · refine lv_lookup (off := 43) (tgt := 88) hx hb dX6_kindOf_45 (by decide) (by rw [c_4]; decide +kernel) (by decide) ?_
          refine lv_bipush (v := 17) hx hb dX6_kindOf_88 (by decide) ?_
          exact gx_iret (w' := [(a, .inl (cB, 4000, .inl f))]) hx hb hr hlk hK hP hD hS (Nat.le_of_ble_eq_true rfl) (Nat.le_of_ble_eq_true rfl) dX6_kindOf_90 ⟨17, (Or.inr (Or.inr ⟨hnl, hnd, Or.inr (Or.inl ⟨by assumption, rfl⟩)⟩)), rfl, rfl⟩
        · by_cases c_5 : f fr = 59
          · refine lv_lookup (off := 46) (tgt := 91) hx hb dX6_kindOf_45 (by decide) (by rw [c_5]; decide +kernel) (by decide) ?_
            refine lv_bipush (v := 18) hx hb dX6_kindOf_91 (by decide) ?_
            exact gx_iret (w' := [(a, .inl (cB, 4000, .inl f))]) hx hb hr hlk hK hP hD hS (Nat.le_of_ble_eq_true rfl) (Nat.le_of_ble_eq_true rfl) dX6_kindOf_93 ⟨18, (Or.inr (Or.inr ⟨hnl, hnd, Or.inr (Or.inr (Or.inl ⟨by assumption, rfl⟩))⟩)), rfl, rfl⟩
          · by_cases c_6 : f fr = 61
            · refine lv_lookup (off := 49) (tgt := 94) hx hb dX6_kindOf_45 (by decide) (by rw [c_6]; decide +kernel) (by decide) ?_
              refine lv_bipush (v := 19) hx hb dX6_kindOf_94 (by decide) ?_
              exact gx_iret (w' := [(a, .inl (cB, 4000, .inl f))]) hx hb hr hlk hK hP hD hS (Nat.le_of_ble_eq_true rfl) (Nat.le_of_ble_eq_true rfl) dX6_kindOf_96 ⟨19, (Or.inr (Or.inr ⟨hnl, hnd, Or.inr (Or.inr (Or.inr (Or.inl ⟨by assumption, rfl⟩)))⟩)), rfl, rfl⟩
            · refine lv_lookup (off := 55) (tgt := 100) hx hb dX6_kindOf_45 (by decide) (by rw [lv_osw c_3 (by decide), lv_osw c_4 (by decide), lv_osw c_5 (by decide), lv_osw c_6 (by decide)]; rfl) (by decide) ?_
              refine lv_bipush (v := 22) hx hb dX6_kindOf_100 (by decide) ?_
              exact gx_iret (w' := [(a, .inl (cB, 4000, .inl f))]) hx hb hr hlk hK hP hD hS (Nat.le_of_ble_eq_true rfl) (Nat.le_of_ble_eq_true rfl) dX6_kindOf_102 ⟨22, (Or.inr (Or.inr ⟨hnl, hnd, Or.inr (Or.inr (Or.inr (Or.inr ⟨by assumption, by assumption, by assumption, by assumption, rfl⟩)))⟩)), rfl, rfl⟩
    · have c_2 : ¬ (f fr) < 48 ∧ ¬ 57 < (f fr) := gy_b1 c_2
      have hdg : gDi (f fr) := c_2
      refine lv_iload_n hx hb dX6_kindOf_27 rfl (lv_at hl 2 rfl) ?_
      refine lv_iload_n hx hb dX6_kindOf_28 rfl (lv_at hl 1 rfl) ?_
      refine lv_isub hx hb dX6_kindOf_29 ?_
      refine gx_top (y := nI (bh - fr)) (pk_sub (a := bh) (b := fr) (by omega)) ?_
      refine lv_iconst (v := 3) hx hb dX6_kindOf_30 (by decide) ?_
      refine gy_gt (a := (bh - fr)) (b := 3) (tgt := 39) hx hb (by omega) (by omega) dX6_kindOf_31 (by decide) (fun c_7 => ?_) (fun c_7 => ?_)
      · refine lv_bipush (v := 22) hx hb dX6_kindOf_39 (by decide) ?_
        exact gx_iret (w' := [(a, .inl (cB, 4000, .inl f))]) hx hb hr hlk hK hP hD hS (Nat.le_of_ble_eq_true rfl) (Nat.le_of_ble_eq_true rfl) dX6_kindOf_41 ⟨22, (Or.inr (Or.inl ⟨hnl, hdg, by first | exact Or.inl ⟨by omega, rfl⟩ | exact Or.inr ⟨by omega, rfl⟩⟩)), rfl, rfl⟩
      · refine lv_bipush (v := 16) hx hb dX6_kindOf_34 (by decide) ?_
        refine lv_goto (tgt := 41) hx hb dX6_kindOf_36 (by decide) ?_
        exact gx_iret (w' := [(a, .inl (cB, 4000, .inl f))]) hx hb hr hlk hK hP hD hS (Nat.le_of_ble_eq_true rfl) (Nat.le_of_ble_eq_true rfl) dX6_kindOf_41 ⟨16, (Or.inr (Or.inl ⟨hnl, hdg, by first | exact Or.inl ⟨by omega, rfl⟩ | exact Or.inr ⟨by omega, rfl⟩⟩)), rfl, rfl⟩
  · have c_1 : ¬ (f fr) < 97 ∧ ¬ 122 < (f fr) := gy_b1 c_1
    have hle := c_1
    refine lv_aload_n hx hb dX6_kindOf_9 rfl (lv_at hl 0 rfl) ?_
    refine lv_iload_n hx hb dX6_kindOf_10 rfl (lv_at hl 1 rfl) ?_
    refine lv_iload_n hx hb dX6_kindOf_11 rfl (lv_at hl 2 rfl) ?_
    refine lv_iload_n hx hb dX6_kindOf_12 rfl (lv_at hl 1 rfl) ?_
    refine lv_isub hx hb dX6_kindOf_13 ?_
    refine gx_top (y := nI (bh - fr)) (pk_sub (a := bh) (b := fr) (by omega)) ?_
    refine gx_goi (wc := [(a, .inl (cB, 4000, .inl f))]) (wr := []) (va_runS (As := [.ref a, .int (nI fr), .int (nI (bh - fr))]) (rest := []) ⟨hx, hb, hml, hown, hts⟩ (e_wordKind l D cI cB cZ K a f fr (bh - fr) (by omega) _) (va_cwS 3 hts gP_e_kindOf__e_wordKind rfl rfl rfl (by decide +kernel) ⟨Nat.le_of_ble_eq_true rfl, Nat.le_of_ble_eq_true rfl⟩) (ge_preS hE hS hA hK gN.nil hP hD [0] rfl rfl) rfl rfl hl.1 rfl (lv_room (Nat.le_of_ble_eq_true rfl)) dX6_kindOf_14 ⟨Nat.le_of_ble_eq_true rfl, Nat.le_of_ble_eq_true rfl⟩) hP hD hS hA [0] [] rfl rfl rfl (by decide) (fun r1 w1 H locs hp hP hD hS => ?_)
    obtain ⟨e_8, hq_9, h9, rfl⟩ := hp
    have h9 := h9.symm
    subst h9
    have hq_9 : gWk f fr (bh - fr) e_8 := hq_9
    exact gx_iret (w' := [(a, .inl (cB, 4000, .inl f))]) hx hb hr hlk hK hP hD hS (Nat.le_of_ble_eq_true rfl) (Nat.le_of_ble_eq_true rfl) dX6_kindOf_17 ⟨e_8, (Or.inl ⟨hle, hq_9⟩), rfl, rfl⟩
