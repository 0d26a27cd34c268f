
/-- the char at k of the table of words -/
def gTn (k : Nat) : Nat := ((gByt.getD 0 []).getD k 0).toBitVec.toNat % 256
def gTc (k : Nat) : Int32 := nI (gTn k)
/-- the sz bytes at fr are word w -/
def gIsW (f : Nat → Int32) (fr sz w : Nat) : Prop := (∀ i, i < sz → f (fr + i) = gTc ((w * 6) + i)) ∧ gTn ((w * 6) + sz) = 32
theorem gIsW_s {f : Nat → Int32} {fr i w : Nat} (h : ∀ j, j < i → f (fr + j) = gTc ((w * 6) + j)) (hi : f (fr + i) = gTc ((w * 6) + i)) : ∀ j, j < i + 1 → f (fr + j) = gTc ((w * 6) + j) := by
  intro j hj
  by_cases e : j = i
  · subst e; exact hi
  · exact h j (by omega)
/-- which word it is -/
def gWk (f : Nat → Int32) (fr sz q : Nat) : Prop := (q < 16 ∧ sz < 6 ∧ gIsW f fr sz q) ∨ (q = 22 ∧ (6 ≤ sz ∨ ∀ w, w < 16 → ¬ gIsW f fr sz w))
def wsP_e_xWord : List Cond := .code yX6_isWord cX6_isWord 5 (some .boolean) :: (([.methodLink RX6 90 yJ0_charAt_5068e, .instanceMethod yJ0_charAt_5068e, .selects RJ0 yJ0_charAt_5068e yJ0_charAt_5068e, .initialized RJ0]) ++ (wsP_c_charAt ++ []))
theorem gW_e_xWord : wsP_e_xWord.all goodWord = true := by unfold wsP_e_xWord; exact gw_mk (by decide +kernel) (gw_app gW_c_charAt rfl)
set_option maxRecDepth 20000 in
theorem gP_e_xWord__c_charAt : GoodIn wsP_e_xWord (wsV RX6 90 RJ0 yJ0_charAt_5068e wsP_c_charAt) := gw_in (pre := [.methodLink RX6 90 yJ0_charAt_5068e, .instanceMethod yJ0_charAt_5068e, .selects RJ0 yJ0_charAt_5068e yJ0_charAt_5068e, .initialized RJ0]) (by decide +kernel) (fun _ h => List.mem_cons_of_mem _ (List.mem_append_right _ (List.mem_append_left _ h))) gW_c_charAt
set_option maxHeartbeats 4000000 in
set_option maxRecDepth 100000 in
theorem e_xWord (l : Launch) (D : va_G) (cI cB cZ : ClassId) (K : gKS) (a : Nat) (f : Nat → Int32) (fr : Nat) (sz : Nat) (w : Nat) (hw : w < 16) (hs6 : sz < 6) (hfs : fr + sz ≤ 4000) : gMiE l yX6_isWord wsP_e_xWord ({ frames := 4, cells := 0, slots := 0, locals := 85 }) D cI cB cZ K [] [.ref a, .int (nI fr), .int (nI sz), .int (nI w)] [(a, .inl (cB, 4000, .inl f))] (fun r9 w9 => ∃ z : Int32, ((z = 1 ∧ gIsW f fr sz w) ∨ (z = 0 ∧ ¬ gIsW f fr sz w)) ∧ r9 = z ∧ w9 = [(a, .inl (cB, 4000, .inl f))]) := by
  refine gMiE.of (cc := cX6_isWord) (maxL := 5) (ret := (some .boolean)) (by decide) rfl (Nat.le_of_ble_eq_true rfl) (fun p e s m below meth c A ls hx hb hr hlk hml hts hown hin hA hP hK hD hS hN hE hl => ?_)
  have hown : s.vm.findClass RX6 = some m.cls := hown
  have hl : lv_has ls 5 [(0, .ref a), (1, .int (nI fr)), (2, .int (nI sz)), (3, .int (nI w))] := hl
  refine lv_iconst (v := 0) hx hb dX6_isWord_0 (by decide) ?_
  refine lv_istore (lv' := [(4, .int 0), (0, .ref a), (1, .int (nI fr)), (2, .int (nI sz)), (3, .int (nI w))]) hx hb dX6_isWord_1 hl (by decide) rfl (fun ls hl => ?_)
  refine gy_loop0 (I := fun (x9 : Nat) H locs ls => (x9 ≤ sz) ∧ (∀ j, j < x9 → f (fr + j) = gTc ((w * 6) + j)) ∧ va_P D vwCl [(a, .inl (cB, 4000, .inl f))] H ∧ va_D A [(a, .inl (cB, 4000, .inl f))] ∧ va_S A s.heap H locs ∧ lv_has ls 5 [(4, .int (nI x9)), (0, .ref a), (1, .int (nI fr)), (2, .int (nI sz)), (3, .int (nI w))]) (μ := fun (x9 : Nat) => sz - x9) (fun x9 H locs ls hI ih3 => ?_) 0 ⟨(by show 0 ≤ sz; exact Nat.zero_le _), (fun j h => absurd h (Nat.not_lt_zero j)), hP, hD, hS, lv_sub hl [0, 1, 2, 3, 4] rfl⟩
  obtain ⟨i, rfl⟩ : ∃ z9, z9 = x9 := ⟨_, rfl⟩
  obtain ⟨hi3_0, hi3_1, hP, hD, hS, hl⟩ := hI
  have hi3_0 : i ≤ sz := hi3_0
  have hi3_1 : ∀ j, j < i → f (fr + j) = gTc ((w * 6) + j) := hi3_1
  have hP : va_P D vwCl [(a, .inl (cB, 4000, .inl f))] H := hP
  have hD : va_D A [(a, .inl (cB, 4000, .inl f))] := hD
  have hS : va_S A s.heap H locs := hS
  have hl : lv_has ls 5 [(4, .int (nI i)), (0, .ref a), (1, .int (nI fr)), (2, .int (nI sz)), (3, .int (nI w))] := hl
  refine lv_iload hx hb dX6_isWord_3 (lv_at hl 0 rfl) ?_
  refine lv_iload_n hx hb dX6_isWord_5 rfl (lv_at hl 3 rfl) ?_
  refine gy_ge (a := i) (b := sz) (tgt := 38) hx hb (by omega) (by omega) dX6_isWord_6 (by decide) (fun c_1 => ?_) (fun c_1 => ?_)
  · refine va_ldcS hx hb hown (hE.lit (88, 0) (by decide)) dX6_isWord_38 ?_
    refine lv_iload_n hx hb dX6_isWord_40 rfl (lv_at hl 4 rfl) ?_
    refine lv_bipush (v := 6) hx hb dX6_isWord_41 (by decide) ?_
    refine lv_imul hx hb dX6_isWord_43 ?_
    refine gx_top (y := nI (w * 6)) (pk_mul w 6) ?_
    refine lv_iload_n hx hb dX6_isWord_44 rfl (lv_at hl 3 rfl) ?_
    refine lv_iadd hx hb dX6_isWord_45 ?_
    refine gx_top (y := nI ((w * 6) + sz)) (nI_add (w * 6) sz) ?_
    refine gx_goi (wc := []) (wr := [(a, .inl (cB, 4000, .inl f))]) (va_runV (As := [.int (nI ((w * 6) + sz))]) (rest := []) ⟨hx, hb, hml, hown, hts⟩ (c_charAt l D cI cB cZ K 0 ((w * 6) + sz) (by omega) (by show _ < 96; omega) _) (cwV 1 hts gP_e_xWord__c_charAt rfl rfl rfl (by decide +kernel) ⟨Nat.le_of_ble_eq_true rfl, Nat.le_of_ble_eq_true rfl⟩) (ge_preK (j := 0) (by first | omega | decide) hE hS hA hK gN.nil hP hD [] rfl rfl) rfl rfl hl.1 rfl (lv_room (Nat.le_of_ble_eq_true rfl)) dX6_isWord_46 ⟨Nat.le_of_ble_eq_true rfl, Nat.le_of_ble_eq_true rfl⟩) hP hD hS hA [] [0] rfl rfl rfl (by decide) (fun r1 w1 H locs hp hP hD hS => ?_)
    obtain ⟨h9, rfl⟩ := hp
    have h9 := h9.symm
    subst h9
    refine lv_bipush (v := 32) hx hb dX6_isWord_49 (by decide) ?_
    refine gy_ne (a := (((gByt.getD 0 []).getD ((w * 6) + sz) 0).toBitVec.toNat % 256)) (b := 32) (tgt := 58) hx hb (by omega) (by omega) dX6_isWord_51 (by decide) (fun c_2 => ?_) (fun c_2 => ?_)
    · refine lv_iconst (v := 0) hx hb dX6_isWord_58 (by decide) ?_
      exact gx_zret (w' := [(a, .inl (cB, 4000, .inl f))]) hx hb hr hlk hK hP hD hS (Nat.le_of_ble_eq_true rfl) (Nat.le_of_ble_eq_true rfl) dX6_isWord_59 rfl ⟨0, (by first | exact Or.inl ⟨rfl, fun j hj => hi3_1 j (by omega), c_2⟩ | exact Or.inr ⟨rfl, fun h => c_2 h.2⟩), rfl, rfl⟩
    · refine lv_iconst (v := 1) hx hb dX6_isWord_54 (by decide) ?_
      refine lv_goto (tgt := 59) hx hb dX6_isWord_55 (by decide) ?_
      exact gx_zret (w' := [(a, .inl (cB, 4000, .inl f))]) hx hb hr hlk hK hP hD hS (Nat.le_of_ble_eq_true rfl) (Nat.le_of_ble_eq_true rfl) dX6_isWord_59 rfl ⟨1, (by first | exact Or.inl ⟨rfl, fun j hj => hi3_1 j (by omega), c_2⟩ | exact Or.inr ⟨rfl, fun h => c_2 h.2⟩), rfl, rfl⟩
  · refine lv_aload_n hx hb dX6_isWord_9 rfl (lv_at hl 1 rfl) ?_
    refine lv_iload_n hx hb dX6_isWord_10 rfl (lv_at hl 2 rfl) ?_
    refine lv_iload hx hb dX6_isWord_11 (lv_at hl 0 rfl) ?_
    refine lv_iadd hx hb dX6_isWord_13 ?_
    refine gx_top (y := nI (fr + i)) (nI_add fr i) ?_
    refine gy_bld (i := (fr + i)) hx hb hK hP 0 rfl (by omega) (by omega) dX6_isWord_14 ?_
    refine va_ldcS hx hb hown (hE.lit (88, 0) (by decide)) dX6_isWord_15 ?_
    refine lv_iload_n hx hb dX6_isWord_17 rfl (lv_at hl 4 rfl) ?_
    refine lv_bipush (v := 6) hx hb dX6_isWord_18 (by decide) ?_
    refine lv_imul hx hb dX6_isWord_20 ?_
    refine gx_top (y := nI (w * 6)) (pk_mul w 6) ?_
    refine lv_iload hx hb dX6_isWord_21 (lv_at hl 0 rfl) ?_
    refine lv_iadd hx hb dX6_isWord_23 ?_
    refine gx_top (y := nI ((w * 6) + i)) (nI_add (w * 6) i) ?_
    refine gx_goi (wc := []) (wr := [(a, .inl (cB, 4000, .inl f))]) (va_runV (As := [.int (nI ((w * 6) + i))]) (rest := [.int (f (fr + i))]) ⟨hx, hb, hml, hown, hts⟩ (c_charAt l D cI cB cZ K 0 ((w * 6) + i) (by omega) (by show _ < 96; omega) _) (cwV 1 hts gP_e_xWord__c_charAt rfl rfl rfl (by decide +kernel) ⟨Nat.le_of_ble_eq_true rfl, Nat.le_of_ble_eq_true rfl⟩) (ge_preK (j := 0) (by first | omega | decide) hE hS hA hK gN.nil hP hD [] rfl rfl) rfl rfl hl.1 rfl (lv_room (Nat.le_of_ble_eq_true rfl)) dX6_isWord_24 ⟨Nat.le_of_ble_eq_true rfl, Nat.le_of_ble_eq_true rfl⟩) hP hD hS hA [] [0] rfl rfl rfl (by decide) (fun r1 w1 H locs hp hP hD hS => ?_)
    obtain ⟨h9, rfl⟩ := hp
    have h9 := h9.symm
    subst h9
    refine lv_icmp_eq (tgt := 32) hx hb dX6_isWord_27 (by decide) (fun c_3 => ?_) (fun c_3 => ?_)
    · refine lv_iinc (v := nI (i + 1)) (lv' := [(4, .int (nI (i + 1))), (0, .ref a), (1, .int (nI fr)), (2, .int (nI sz)), (3, .int (nI w))]) hx hb dX6_isWord_32 hl (k := 0) rfl (nI_add i 1) (by decide) rfl (fun ls hl => ?_)
      refine lv_goto (tgt := 3) hx hb dX6_isWord_35 (by decide) ?_
      exact ih3 (i + 1) H locs ls ⟨(by show (i + 1) ≤ sz; omega), (gIsW_s hi3_1 c_3), hP, hD, hS, lv_sub hl [0, 1, 2, 3, 4] rfl⟩ (by show sz - (i + 1) < sz - i; omega)
    · refine lv_iconst (v := 0) hx hb dX6_isWord_30 (by decide) ?_
      exact gx_zret (w' := [(a, .inl (cB, 4000, .inl f))]) hx hb hr hlk hK hP hD hS (Nat.le_of_ble_eq_true rfl) (Nat.le_of_ble_eq_true rfl) dX6_isWord_31 rfl ⟨0, (Or.inr ⟨rfl, fun h => c_3 (h.1 i (by omega))⟩), rfl, rfl⟩
def wsP_e_wordKind : List Cond := .code yX6_wordKind cX6_wordKind 4 (some .int) :: (([.methodLink RX6 84 yX6_isWord, .static yX6_isWord, .initialized yX6_isWord.cls]) ++ (wsP_e_xWord ++ []))
theorem gW_e_wordKind : wsP_e_wordKind.all goodWord = true := by unfold wsP_e_wordKind; exact gw_mk (by decide +kernel) (gw_app gW_e_xWord rfl)
set_option maxRecDepth 20000 in
theorem gP_e_wordKind__e_xWord : GoodIn wsP_e_wordKind (va_wsS RX6 84 yX6_isWord wsP_e_xWord) := gw_in (pre := [.methodLink RX6 84 yX6_isWord, .static yX6_isWord, .initialized yX6_isWord.cls]) (by decide +kernel) (fun _ h => List.mem_cons_of_mem _ (List.mem_append_right _ (List.mem_append_left _ h))) gW_e_xWord
set_option maxHeartbeats 4000000 in
set_option maxRecDepth 100000 in
theorem e_wordKind (l : Launch) (D : va_G) (cI cB cZ : ClassId) (K : gKS) (a : Nat) (f : Nat → Int32) (fr : Nat) (sz : Nat) (hfs : fr + sz ≤ 4000) : gMiE l yX6_wordKind wsP_e_wordKind ({ frames := 5, cells := 0, slots := 0, locals := 109 }) D cI cB cZ K [] [.ref a, .int (nI fr), .int (nI sz)] [(a, .inl (cB, 4000, .inl f))] (fun r9 w9 => ∃ q : Nat, (gWk f fr sz q) ∧ r9 = (nI q) ∧ w9 = [(a, .inl (cB, 4000, .inl f))]) := by
  refine gMiE.of (cc := cX6_wordKind) (maxL := 4) (ret := (some .int)) (by decide) rfl (Nat.le_of_ble_eq_true rfl) (fun p e s m below meth c A ls hx hb hr hlk hml hts hown hin hA hP hK hD hS hN hE hl => ?_)
  have hown : s.vm.findClass RX6 = some m.cls := hown
  have hl : lv_has ls 4 [(0, .ref a), (1, .int (nI fr)), (2, .int (nI sz))] := hl
  refine lv_iconst (v := 0) hx hb dX6_wordKind_0 (by decide) ?_
  refine lv_istore_n (lv' := [(3, .int 0), (0, .ref a), (1, .int (nI fr)), (2, .int (nI sz))]) hx hb dX6_wordKind_1 rfl hl (by decide) rfl (fun ls hl => ?_)
  refine gy_loop0 (I := fun (x9 : Nat) H locs ls => (x9 ≤ 16) ∧ (6 ≤ sz ∨ ∀ v, v < x9 → ¬ gIsW f fr sz v) ∧ va_P D vwCl [(a, .inl (cB, 4000, .inl f))] H ∧ va_D A [(a, .inl (cB, 4000, .inl f))] ∧ va_S A s.heap H locs ∧ lv_has ls 4 [(3, .int (nI x9)), (0, .ref a), (1, .int (nI fr)), (2, .int (nI sz))]) (μ := fun (x9 : Nat) => 16 - x9) (fun x9 H locs ls hI ih2 => ?_) 0 ⟨(by show 0 ≤ 16; exact Nat.le_of_ble_eq_true rfl), (Or.inr (fun v h => absurd h (Nat.not_lt_zero v))), hP, hD, hS, lv_sub hl [0, 1, 2, 3] rfl⟩
  obtain ⟨w, rfl⟩ : ∃ z9, z9 = x9 := ⟨_, rfl⟩
  obtain ⟨hi2_0, hi2_1, hP, hD, hS, hl⟩ := hI
  have hi2_0 : w ≤ 16 := hi2_0
  have hi2_1 : 6 ≤ sz ∨ ∀ v, v < w → ¬ gIsW f fr sz v := hi2_1
  have hP : va_P D vwCl [(a, .inl (cB, 4000, .inl f))] H := hP
  have hD : va_D A [(a, .inl (cB, 4000, .inl f))] := hD
  have hS : va_S A s.heap H locs := hS
  have hl : lv_has ls 4 [(3, .int (nI w)), (0, .ref a), (1, .int (nI fr)), (2, .int (nI sz))] := hl
  refine lv_iload_n hx hb dX6_wordKind_2 rfl (lv_at hl 0 rfl) ?_
  refine lv_bipush (v := 16) hx hb dX6_wordKind_3 (by decide) ?_
  refine gy_ge (a := w) (b := 16) (tgt := 32) hx hb (by omega) (by omega) dX6_wordKind_5 (by decide) (fun c_1 => ?_) (fun c_1 => ?_)
  · refine lv_bipush (v := 22) hx hb dX6_wordKind_32 (by decide) ?_
    exact gx_iret (w' := [(a, .inl (cB, 4000, .inl f))]) hx hb hr hlk hK hP hD hS (Nat.le_of_ble_eq_true rfl) (Nat.le_of_ble_eq_true rfl) dX6_wordKind_34 ⟨22, (Or.inr ⟨rfl, hi2_1.imp id (fun h v hv => h v (by omega))⟩), rfl, rfl⟩
  · refine lv_iload_n hx hb dX6_wordKind_8 rfl (lv_at hl 3 rfl) ?_
    refine lv_bipush (v := 6) hx hb dX6_wordKind_9 (by decide) ?_
    refine gy_ge (a := sz) (b := 6) (tgt := 26) hx hb (by omega) (by omega) dX6_wordKind_11 (by decide) (fun c_2 => ?_) (fun c_2 => ?_)
    · refine lv_iinc (v := nI (w + 1)) (lv' := [(3, .int (nI (w + 1))), (0, .ref a), (1, .int (nI fr)), (2, .int (nI sz))]) hx hb dX6_wordKind_26 hl (k := 0) rfl (nI_add w 1) (by decide) rfl (fun ls hl => ?_)
      refine lv_goto (tgt := 2) hx hb dX6_wordKind_29 (by decide) ?_
      exact ih2 (w + 1) H locs ls ⟨(by show (w + 1) ≤ 16; omega), (by first | exact Or.inl (by omega) | exact hi2_1.imp id (fun h v hv => (by by_cases e9 : v = w; (subst e9; exact (hxw.resolve_left (fun q9 => absurd (c_2.symm.trans q9.1) (by decide))).2); exact h v (by omega)))), hP, hD, hS, lv_sub hl [0, 1, 2, 3] rfl⟩ (by show 16 - (w + 1) < 16 - w; omega)
    · refine lv_aload_n hx hb dX6_wordKind_14 rfl (lv_at hl 1 rfl) ?_
      refine lv_iload_n hx hb dX6_wordKind_15 rfl (lv_at hl 2 rfl) ?_
      refine lv_iload_n hx hb dX6_wordKind_16 rfl (lv_at hl 3 rfl) ?_
      refine lv_iload_n hx hb dX6_wordKind_17 rfl (lv_at hl 0 rfl) ?_
      refine gx_goi (wc := [(a, .inl (cB, 4000, .inl f))]) (wr := []) (va_runS (As := [.ref a, .int (nI fr), .int (nI sz), .int (nI w)]) (rest := []) ⟨hx, hb, hml, hown, hts⟩ (e_xWord l D cI cB cZ K a f fr sz w (by omega) (by omega) (by omega) _) (va_cwS 4 hts gP_e_wordKind__e_xWord rfl rfl rfl (by decide +kernel) ⟨Nat.le_of_ble_eq_true rfl, Nat.le_of_ble_eq_true rfl⟩) (ge_preS hE hS hA hK gN.nil hP hD [0] rfl rfl) rfl rfl hl.1 rfl (lv_room (Nat.le_of_ble_eq_true rfl)) dX6_wordKind_18 ⟨Nat.le_of_ble_eq_true rfl, Nat.le_of_ble_eq_true rfl⟩) hP hD hS hA [0] [] rfl rfl rfl (by decide) (fun r1 w1 H locs hp hP hD hS => ?_)
      obtain ⟨e_3, hq_4, h9, rfl⟩ := hp
      have h9 := h9.symm
      subst h9
      have hq_4 : (e_3 = 1 ∧ gIsW f fr sz w) ∨ (e_3 = 0 ∧ ¬ gIsW f fr sz w) := hq_4
      have hxw := hq_4
      refine lv_if_eq (tgt := 26) hx hb dX6_wordKind_21 (by decide) (fun c_5 => ?_) (fun c_5 => ?_)
      · refine lv_iinc (v := nI (w + 1)) (lv' := [(3, .int (nI (w + 1))), (0, .ref a), (1, .int (nI fr)), (2, .int (nI sz))]) hx hb dX6_wordKind_26 hl (k := 0) rfl (nI_add w 1) (by decide) rfl (fun ls hl => ?_)
        refine lv_goto (tgt := 2) hx hb dX6_wordKind_29 (by decide) ?_
        exact ih2 (w + 1) H locs ls ⟨(by show (w + 1) ≤ 16; omega), (by first | exact Or.inl (by omega) | exact hi2_1.imp id (fun h v hv => (by by_cases e9 : v = w; (subst e9; exact (hxw.resolve_left (fun q9 => absurd (c_5.symm.trans q9.1) (by decide))).2); exact h v (by omega)))), hP, hD, hS, lv_sub hl [0, 1, 2, 3] rfl⟩ (by show 16 - (w + 1) < 16 - w; omega)
      · refine lv_iload_n hx hb dX6_wordKind_24 rfl (lv_at hl 0 rfl) ?_
        exact gx_iret (w' := [(a, .inl (cB, 4000, .inl f))]) hx hb hr hlk hK hP hD hS (Nat.le_of_ble_eq_true rfl) (Nat.le_of_ble_eq_true rfl) dX6_wordKind_25 ⟨w, (Or.inl ⟨by omega, by omega, (hxw.resolve_right (fun q9 => c_5 q9.1)).2⟩), rfl, rfl⟩
